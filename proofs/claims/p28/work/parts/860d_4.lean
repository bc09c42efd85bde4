abbrev KXG := (Nat) × (Nat) × (Nat) × (Nat) × (Nat) × (Int32) × (Int32) × (Nat → Nat) × (Nat → Int32) × (Nat → Int32) × (Nat → Int32) × (Nat → Nat) × (Nat → Nat → Int32)
def kXG : CX → KXG := fun (nv, iv, vv, fv, qv, fcv, qs, fz, ps, gz) => ((nv 1), (nv 6), (nv 7), (nv 13), (nv 14), (iv 6), (iv 7), (qv 8), (fv 23), (fv 24), (fv 25), qs, fz)
theorem kxG_feed {S u : CX} {p0 : Int32} {p1 : Int32} {p2 : Int32} {p3 : Int32} {p4 : Int32} {r : Int32} (h : xM_feed S p0 p1 p2 p3 p4 r u) : kXG u = kXG S := by
  obtain ⟨nv, iv, vv, fv, qv, fcv, qs, fz, ps, gz⟩ := S
  rcases h with ⟨_, _, -, rfl⟩
  exact pe_ rfl (pe_ rfl (pe_ rfl (pe_ rfl (pe_ rfl (pe_ rfl (pe_ rfl (pe_ rfl (pe_ rfl (pe_ rfl (pe_ rfl (pe_ rfl (rfl))))))))))))
theorem kxG_end {S u : CX} {p0 : Int32} {r : Int32} (h : xM_end S p0 r u) : kXG u = kXG S := by
  obtain ⟨nv, iv, vv, fv, qv, fcv, qs, fz, ps, gz⟩ := S
  rcases h with ⟨_, -, rfl⟩
  exact pe_ rfl (pe_ rfl (pe_ rfl (pe_ rfl (pe_ rfl (pe_ rfl (pe_ rfl (pe_ rfl (pe_ rfl (pe_ rfl (pe_ rfl (pe_ rfl (rfl))))))))))))
theorem kxG_fault {S u : CX} {p0 : Int32} {r : Int32} (h : xM_fault S p0 r u) : kXG u = kXG S := by
  obtain ⟨nv, iv, vv, fv, qv, fcv, qs, fz, ps, gz⟩ := S
  rcases h with ⟨-, rfl⟩
  exact pe_ rfl (pe_ rfl (pe_ rfl (pe_ rfl (pe_ rfl (pe_ rfl (pe_ rfl (pe_ rfl (pe_ rfl (pe_ rfl (pe_ rfl (pe_ rfl (rfl))))))))))))
theorem kxG_about {S u : CX} {p0 : Int32} {r : Int32} (h : xM_about S p0 r u) : kXG u = kXG S := by
  obtain ⟨nv, iv, vv, fv, qv, fcv, qs, fz, ps, gz⟩ := S
  rcases h with ⟨-, rfl⟩
  exact pe_ rfl (pe_ rfl (pe_ rfl (pe_ rfl (pe_ rfl (pe_ rfl (pe_ rfl (pe_ rfl (pe_ rfl (pe_ rfl (pe_ rfl (pe_ rfl (rfl))))))))))))
theorem kxG_place {S u : CX} {p0 : Int32} {p1 : Int32} {r : Int32} (h : xM_place S p0 p1 r u) : kXG u = kXG S := by
  obtain ⟨nv, iv, vv, fv, qv, fcv, qs, fz, ps, gz⟩ := S
  rcases h with ⟨-, rfl⟩
  exact pe_ rfl (pe_ rfl (pe_ rfl (pe_ rfl (pe_ rfl (pe_ rfl (pe_ rfl (pe_ rfl (pe_ rfl (pe_ rfl (pe_ rfl (pe_ rfl (rfl))))))))))))
theorem kxG_edge {S u : CX} {p0 : Int32} {p1 : Int32} {r : Int32} (h : xM_edge S p0 p1 r u) : kXG u = kXG S := by
  obtain ⟨nv, iv, vv, fv, qv, fcv, qs, fz, ps, gz⟩ := S
  rcases h with ⟨-, rfl⟩
  exact pe_ rfl (pe_ rfl (pe_ rfl (pe_ rfl (pe_ rfl (pe_ rfl (pe_ rfl (pe_ rfl (pe_ rfl (pe_ rfl (pe_ rfl (pe_ rfl (rfl))))))))))))
theorem kxG_condition {S u : CX} {p0 : Int32} {p1 : Int32} {p2 : Int32} {r : Int32} (h : xM_condition S p0 p1 p2 r u) : kXG u = kXG S := by
  obtain ⟨nv, iv, vv, fv, qv, fcv, qs, fz, ps, gz⟩ := S
  rcases h with ⟨-, rfl⟩
  exact pe_ rfl (pe_ rfl (pe_ rfl (pe_ rfl (pe_ rfl (pe_ rfl (pe_ rfl (pe_ rfl (pe_ rfl (pe_ rfl (pe_ rfl (pe_ rfl (rfl))))))))))))
theorem kxG_limit {S u : CX} {p0 : Int32} {p1 : Int32} {r : Int32} (h : xM_limit S p0 p1 r u) : kXG u = kXG S := by
  obtain ⟨nv, iv, vv, fv, qv, fcv, qs, fz, ps, gz⟩ := S
  rcases h with ⟨-, rfl⟩
  exact pe_ rfl (pe_ rfl (pe_ rfl (pe_ rfl (pe_ rfl (pe_ rfl (pe_ rfl (pe_ rfl (pe_ rfl (pe_ rfl (pe_ rfl (pe_ rfl (rfl))))))))))))
theorem kxG_rings {S u : CX} {r : Int32} (h : xM_rings S r u) : kXG u = kXG S := by
  obtain ⟨nv, iv, vv, fv, qv, fcv, qs, fz, ps, gz⟩ := S
  rcases h with ⟨-, rfl⟩
  exact pe_ rfl (pe_ rfl (pe_ rfl (pe_ rfl (pe_ rfl (pe_ rfl (pe_ rfl (pe_ rfl (pe_ rfl (pe_ rfl (pe_ rfl (pe_ rfl (rfl))))))))))))
theorem kxG_begin {S u : CX} {r : Int32} (h : xM_begin S r u) : kXG u = kXG S := by
  obtain ⟨nv, iv, vv, fv, qv, fcv, qs, fz, ps, gz⟩ := S
  rcases h with ⟨⟨e1, e2, e3⟩, _, -, rfl⟩ | ⟨sn, -, e4, _, _, _, _, -, rfl⟩
  · exact pe_ e2.symm (pe_ rfl (pe_ e1.symm (pe_ rfl (pe_ rfl (pe_ rfl (pe_ rfl (pe_ rfl (pe_ rfl (pe_ rfl (pe_ rfl (pe_ rfl (rfl))))))))))))
  · exact pe_ rfl (pe_ rfl (pe_ rfl (pe_ rfl (pe_ rfl (pe_ rfl (pe_ rfl (pe_ rfl (pe_ rfl (pe_ rfl (pe_ rfl (pe_ rfl (rfl))))))))))))
theorem kxG_waits {S u : CX} {p0 : Int32} {r : Int32} (h : xM_waits S p0 r u) : kXG u = kXG S := by
  obtain ⟨nv, iv, vv, fv, qv, fcv, qs, fz, ps, gz⟩ := S
  rcases h with ⟨_, _, -, rfl⟩
  exact pe_ rfl (pe_ rfl (pe_ rfl (pe_ rfl (pe_ rfl (pe_ rfl (pe_ rfl (pe_ rfl (pe_ rfl (pe_ rfl (pe_ rfl (pe_ rfl (rfl))))))))))))
theorem kxG_takes {S u : CX} {p0 : Int32} {r : Int32} (h : xM_takes S p0 r u) : kXG u = kXG S := by
  obtain ⟨nv, iv, vv, fv, qv, fcv, qs, fz, ps, gz⟩ := S
  rcases h with ⟨_, _, _, -, rfl⟩
  exact pe_ rfl (pe_ rfl (pe_ rfl (pe_ rfl (pe_ rfl (pe_ rfl (pe_ rfl (pe_ rfl (pe_ rfl (pe_ rfl (pe_ rfl (pe_ rfl (rfl))))))))))))
theorem kxG_now {S u : CX} {p0 : Int32} {r : Int32} (h : xM_now S p0 r u) : kXG u = kXG S := by
  obtain ⟨nv, iv, vv, fv, qv, fcv, qs, fz, ps, gz⟩ := S
  rcases h with ⟨_, -, rfl⟩
  exact pe_ rfl (pe_ rfl (pe_ rfl (pe_ rfl (pe_ rfl (pe_ rfl (pe_ rfl (pe_ rfl (pe_ rfl (pe_ rfl (pe_ rfl (pe_ rfl (rfl))))))))))))
theorem kxG_first {S u : CX} {p0 : Int32} {r : Int32} (h : xM_first S p0 r u) : kXG u = kXG S := by
  obtain ⟨nv, iv, vv, fv, qv, fcv, qs, fz, ps, gz⟩ := S
  rcases h with ⟨-, rfl⟩
  exact pe_ rfl (pe_ rfl (pe_ rfl (pe_ rfl (pe_ rfl (pe_ rfl (pe_ rfl (pe_ rfl (pe_ rfl (pe_ rfl (pe_ rfl (pe_ rfl (rfl))))))))))))
theorem kxG_reached {S u : CX} {r : Int32} (h : xM_reached S r u) : kXG u = kXG S := by
  obtain ⟨nv, iv, vv, fv, qv, fcv, qs, fz, ps, gz⟩ := S
  rcases h with ⟨-, rfl⟩
  exact pe_ rfl (pe_ rfl (pe_ rfl (pe_ rfl (pe_ rfl (pe_ rfl (pe_ rfl (pe_ rfl (pe_ rfl (pe_ rfl (pe_ rfl (pe_ rfl (rfl))))))))))))
theorem kxG_taken {S u : CX} {r : Int32} (h : xM_taken S r u) : kXG u = kXG S := by
  obtain ⟨nv, iv, vv, fv, qv, fcv, qs, fz, ps, gz⟩ := S
  rcases h with ⟨-, rfl⟩
  exact pe_ rfl (pe_ rfl (pe_ rfl (pe_ rfl (pe_ rfl (pe_ rfl (pe_ rfl (pe_ rfl (pe_ rfl (pe_ rfl (pe_ rfl (pe_ rfl (rfl))))))))))))
theorem kxG_soonest {S u : CX} {p0 : Int32} {p1 : Int32} {r : Int32} (h : xM_soonest S p0 p1 r u) : kXG u = kXG S := by
  obtain ⟨nv, iv, vv, fv, qv, fcv, qs, fz, ps, gz⟩ := S
  rcases h with ⟨⟨e1, e2, e3⟩, -, rfl⟩ | ⟨sn, -, e4, _, _, _, _, _, _, _, _, _, _, _, _, _, _, _, _, _, _, _, _, -, rfl⟩
  · exact pe_ e2.symm (pe_ rfl (pe_ e1.symm (pe_ rfl (pe_ rfl (pe_ rfl (pe_ rfl (pe_ rfl (pe_ rfl (pe_ rfl (pe_ rfl (pe_ rfl (rfl))))))))))))
  · exact pe_ rfl (pe_ rfl (pe_ rfl (pe_ rfl (pe_ rfl (pe_ rfl (pe_ rfl (pe_ rfl (pe_ rfl (pe_ rfl (pe_ rfl (pe_ rfl (rfl))))))))))))
theorem kxG_run {S u : CX} {p0 : Int32} {p1 : Int32} {r : Int32} (h : xM_run S p0 p1 r u) : kXG u = kXG S := by
  obtain ⟨nv, iv, vv, fv, qv, fcv, qs, fz, ps, gz⟩ := S
  rcases h with ⟨⟨e1, e2, e3⟩, -, rfl⟩ | ⟨sn, -, e4, _, _, -, rfl⟩
  · exact pe_ e2.symm (pe_ rfl (pe_ e1.symm (pe_ rfl (pe_ rfl (pe_ rfl (pe_ rfl (pe_ rfl (pe_ rfl (pe_ rfl (pe_ rfl (pe_ rfl (rfl))))))))))))
  · exact pe_ rfl (pe_ rfl (pe_ rfl (pe_ rfl (pe_ rfl (pe_ rfl (pe_ rfl (pe_ rfl (pe_ rfl (pe_ rfl (pe_ rfl (pe_ rfl (rfl))))))))))))
theorem kxG_when {S u : CX} {p0 : Int32} {p1 : Int32} {r : Int32} (h : xM_when S p0 p1 r u) : kXG u = kXG S := by
  obtain ⟨nv, iv, vv, fv, qv, fcv, qs, fz, ps, gz⟩ := S
  rcases h with ⟨⟨e1, e2, e3⟩, -, rfl⟩ | ⟨sn, -, e4, _, _, _, _, _, _, _, _, -, rfl⟩
  · exact pe_ e2.symm (pe_ rfl (pe_ e1.symm (pe_ rfl (pe_ rfl (pe_ rfl (pe_ rfl (pe_ rfl (pe_ rfl (pe_ rfl (pe_ rfl (pe_ rfl (rfl))))))))))))
  · exact pe_ rfl (pe_ rfl (pe_ rfl (pe_ rfl (pe_ rfl (pe_ rfl (pe_ rfl (pe_ rfl (pe_ rfl (pe_ rfl (pe_ rfl (pe_ rfl (rfl))))))))))))
theorem kxG_then {S u : CX} {p0 : Int32} {p1 : Int32} {p2 : Int32} {r : Int32} (h : xM_then S p0 p1 p2 r u) : kXG u = kXG S := by
  obtain ⟨nv, iv, vv, fv, qv, fcv, qs, fz, ps, gz⟩ := S
  rcases h with ⟨⟨e1, e2, e3⟩, -, rfl⟩ | ⟨sn, -, e4, _, _, _, _, _, _, _, _, -, rfl⟩
  · exact pe_ e2.symm (pe_ rfl (pe_ e1.symm (pe_ rfl (pe_ rfl (pe_ rfl (pe_ rfl (pe_ rfl (pe_ rfl (pe_ rfl (pe_ rfl (pe_ rfl (rfl))))))))))))
  · exact pe_ rfl (pe_ rfl (pe_ rfl (pe_ rfl (pe_ rfl (pe_ rfl (pe_ rfl (pe_ rfl (pe_ rfl (pe_ rfl (pe_ rfl (pe_ rfl (rfl))))))))))))
theorem kxG_latest {S u : CX} {p0 : Int32} {p1 : Int32} {p2 : Int32} {r : Int32} (h : xM_latest S p0 p1 p2 r u) : kXG u = kXG S := by
  obtain ⟨nv, iv, vv, fv, qv, fcv, qs, fz, ps, gz⟩ := S
  rcases h with ⟨⟨e1, e2, e3⟩, -, rfl⟩ | ⟨sn, -, e4, _, _, _, _, _, _, _, _, -, rfl⟩
  · exact pe_ e2.symm (pe_ rfl (pe_ e1.symm (pe_ rfl (pe_ rfl (pe_ rfl (pe_ rfl (pe_ rfl (pe_ rfl (pe_ rfl (pe_ rfl (pe_ rfl (rfl))))))))))))
  · exact pe_ rfl (pe_ rfl (pe_ rfl (pe_ rfl (pe_ rfl (pe_ rfl (pe_ rfl (pe_ rfl (pe_ rfl (pe_ rfl (pe_ rfl (pe_ rfl (rfl))))))))))))
theorem kxG_spans {S u : CX} {p0 : Int32} {p1 : Int32} {r : Int32} (h : xM_spans S p0 p1 r u) : kXG u = kXG S := by
  obtain ⟨nv, iv, vv, fv, qv, fcv, qs, fz, ps, gz⟩ := S
  rcases h with ⟨⟨e1, e2, e3⟩, -, rfl⟩ | ⟨sn, -, e4, _, _, _, _, -, rfl⟩
  · exact pe_ e2.symm (pe_ rfl (pe_ e1.symm (pe_ rfl (pe_ rfl (pe_ rfl (pe_ rfl (pe_ rfl (pe_ rfl (pe_ rfl (pe_ rfl (pe_ rfl (rfl))))))))))))
  · exact pe_ rfl (pe_ rfl (pe_ rfl (pe_ rfl (pe_ rfl (pe_ rfl (pe_ rfl (pe_ rfl (pe_ rfl (pe_ rfl (pe_ rfl (pe_ rfl (rfl))))))))))))
theorem kxG_tells {S u : CX} {p0 : Int32} {p1 : Int32} {p2 : Int32} {p3 : Int32} {p4 : Int32} {p5 : Int32} {r : Int32} (h : xM_tells S p0 p1 p2 p3 p4 p5 r u) : kXG u = kXG S := by
  obtain ⟨nv, iv, vv, fv, qv, fcv, qs, fz, ps, gz⟩ := S
  rcases h with ⟨⟨e1, e2, e3⟩, -, rfl⟩ | ⟨sn, -, e4, _, _, _, _, -, rfl⟩
  · exact pe_ e2.symm (pe_ rfl (pe_ e1.symm (pe_ rfl (pe_ rfl (pe_ rfl (pe_ rfl (pe_ rfl (pe_ rfl (pe_ rfl (pe_ rfl (pe_ rfl (rfl))))))))))))
  · exact pe_ rfl (pe_ rfl (pe_ rfl (pe_ rfl (pe_ rfl (pe_ rfl (pe_ rfl (pe_ rfl (pe_ rfl (pe_ rfl (pe_ rfl (pe_ rfl (rfl))))))))))))
theorem kxG_replays {S u : CX} {p0 : Int32} {r : Int32} (h : xM_replays S p0 r u) : kXG u = kXG S := by
  obtain ⟨nv, iv, vv, fv, qv, fcv, qs, fz, ps, gz⟩ := S
  rcases h with ⟨⟨e1, e2, e3⟩, _, -, rfl⟩ | ⟨sn, -, e4, _, _, _, _, _, _, _, _, _, _, _, _, _, -, rfl⟩
  · exact pe_ e2.symm (pe_ rfl (pe_ e1.symm (pe_ rfl (pe_ rfl (pe_ rfl (pe_ rfl (pe_ rfl (pe_ rfl (pe_ rfl (pe_ rfl (pe_ rfl (rfl))))))))))))
  · exact pe_ rfl (pe_ rfl (pe_ rfl (pe_ rfl (pe_ rfl (pe_ rfl (pe_ rfl (pe_ rfl (pe_ rfl (pe_ rfl (pe_ rfl (pe_ rfl (rfl))))))))))))
theorem kxG_within {S u : CX} {p0 : Int32} {p1 : Int32} {r : Int32} (h : xM_within S p0 p1 r u) : kXG u = kXG S := by
  obtain ⟨nv, iv, vv, fv, qv, fcv, qs, fz, ps, gz⟩ := S
  rcases h with ⟨-, rfl⟩
  exact pe_ rfl (pe_ rfl (pe_ rfl (pe_ rfl (pe_ rfl (pe_ rfl (pe_ rfl (pe_ rfl (pe_ rfl (pe_ rfl (pe_ rfl (pe_ rfl (rfl))))))))))))
theorem kxG_bound {S u : CX} {p0 : Int32} {p1 : Int32} {p2 : Int32} {p3 : Int32} {r : Int32} (h : xM_bound S p0 p1 p2 p3 r u) : kXG u = kXG S := by
  obtain ⟨nv, iv, vv, fv, qv, fcv, qs, fz, ps, gz⟩ := S
  rcases h with ⟨-, rfl⟩
  exact pe_ rfl (pe_ rfl (pe_ rfl (pe_ rfl (pe_ rfl (pe_ rfl (pe_ rfl (pe_ rfl (pe_ rfl (pe_ rfl (pe_ rfl (pe_ rfl (rfl))))))))))))
theorem kxG_has {S u : CX} {p0 : Int32} {p1 : Int32} {p2 : Int32} {p3 : Int32} {r : Int32} (h : xM_has S p0 p1 p2 p3 r u) : kXG u = kXG S := by
  obtain ⟨nv, iv, vv, fv, qv, fcv, qs, fz, ps, gz⟩ := S
  rcases h with ⟨_, -, rfl⟩
  exact pe_ rfl (pe_ rfl (pe_ rfl (pe_ rfl (pe_ rfl (pe_ rfl (pe_ rfl (pe_ rfl (pe_ rfl (pe_ rfl (pe_ rfl (pe_ rfl (rfl))))))))))))
theorem kxG_points {S u : CX} {p0 : Int32} {r : Int32} (h : xM_points S p0 r u) : kXG u = kXG S := by
  obtain ⟨nv, iv, vv, fv, qv, fcv, qs, fz, ps, gz⟩ := S
  rcases h with ⟨_, -, rfl⟩
  exact pe_ rfl (pe_ rfl (pe_ rfl (pe_ rfl (pe_ rfl (pe_ rfl (pe_ rfl (pe_ rfl (pe_ rfl (pe_ rfl (pe_ rfl (pe_ rfl (rfl))))))))))))
abbrev KMG := (Nat) × (Nat) × (Int32) × (Nat → Nat) × (Nat → Int32) × (Nat → Int32) × (Nat → Int32) × (Nat → Int32) × (Nat → Int32) × (Nat → Int32)
def kMG : CMx → KMG := fun (nv, iv, fv, qv) => ((nv 7), (nv 25), (iv 6), (qv 7), (fv 11), (fv 12), (fv 13), (fv 7), (fv 14), (fv 15))
theorem kmG_feed {S u : CMx} {p0 : Int32} {p1 : Int32} {p2 : Int32} {p3 : Int32} {p4 : Int32} {r : Int32} (h : mM_feed S p0 p1 p2 p3 p4 r u) : kMG u = kMG S := by
  obtain ⟨nv, iv, fv, qv⟩ := S
  obtain ⟨_, _, _, -, rfl⟩ := h
  rfl
theorem kmG_fault {S u : CMx} {p0 : Int32} {r : Int32} (h : mM_fault S p0 r u) : kMG u = kMG S := by
  obtain ⟨nv, iv, fv, qv⟩ := S
  obtain ⟨_, -, rfl⟩ := h
  rfl
theorem kmG_end {S u : CMx} {p0 : Int32} {r : Int32} (h : mM_end S p0 r u) : kMG u = kMG S := by
  obtain ⟨nv, iv, fv, qv⟩ := S
  obtain ⟨_, _, -, rfl⟩ := h
  rfl
theorem kmG_about {S u : CMx} {p0 : Int32} {r : Int32} (h : mM_about S p0 r u) : kMG u = kMG S := by
  obtain ⟨nv, iv, fv, qv⟩ := S
  obtain ⟨_, -, rfl⟩ := h
  rfl
theorem kmG_place {S u : CMx} {p0 : Int32} {p1 : Int32} {r : Int32} (h : mM_place S p0 p1 r u) : kMG u = kMG S := by
  obtain ⟨nv, iv, fv, qv⟩ := S
  obtain ⟨_, -, rfl⟩ := h
  rfl
theorem kmG_edge {S u : CMx} {p0 : Int32} {p1 : Int32} {r : Int32} (h : mM_edge S p0 p1 r u) : kMG u = kMG S := by
  obtain ⟨nv, iv, fv, qv⟩ := S
  obtain ⟨_, -, rfl⟩ := h
  rfl
theorem kmG_condition {S u : CMx} {p0 : Int32} {p1 : Int32} {p2 : Int32} {r : Int32} (h : mM_condition S p0 p1 p2 r u) : kMG u = kMG S := by
  obtain ⟨nv, iv, fv, qv⟩ := S
  obtain ⟨_, -, rfl⟩ := h
  rfl
theorem kmG_limit {S u : CMx} {p0 : Int32} {p1 : Int32} {r : Int32} (h : mM_limit S p0 p1 r u) : kMG u = kMG S := by
  obtain ⟨nv, iv, fv, qv⟩ := S
  obtain ⟨_, -, rfl⟩ := h
  rfl
theorem kmG_state {S u : CMx} {p0 : Int32} {p1 : Int32} {r : Int32} (h : mM_state S p0 p1 r u) : kMG u = kMG S := by
  obtain ⟨nv, iv, fv, qv⟩ := S
  obtain ⟨_, _, _, _, _, _, _, _, _, -, rfl⟩ := h
  rfl
theorem kmG_bound {S u : CMx} {p0 : Int32} {p1 : Int32} {p2 : Int32} {p3 : Int32} {r : Int32} (h : mM_bound S p0 p1 p2 p3 r u) : kMG u = kMG S := by
  obtain ⟨nv, iv, fv, qv⟩ := S
  obtain ⟨_, _, -, rfl⟩ := h
  rfl
theorem kmG_within {S u : CMx} {p0 : Int32} {p1 : Int32} {r : Int32} (h : mM_within S p0 p1 r u) : kMG u = kMG S := by
  obtain ⟨nv, iv, fv, qv⟩ := S
  obtain ⟨_, _, _, -, rfl⟩ := h
  rfl
theorem kmG_has {S u : CMx} {p0 : Int32} {p1 : Int32} {p2 : Int32} {p3 : Int32} {r : Int32} (h : mM_has S p0 p1 p2 p3 r u) : kMG u = kMG S := by
  obtain ⟨nv, iv, fv, qv⟩ := S
  obtain ⟨_, _, -, rfl⟩ := h
  rfl
theorem kmG_first {S u : CMx} {p0 : Int32} {r : Int32} (h : mM_first S p0 r u) : kMG u = kMG S := by
  obtain ⟨nv, iv, fv, qv⟩ := S
  obtain ⟨_, -, rfl⟩ := h
  rfl
theorem kmG_reached {S u : CMx} {r : Int32} (h : mM_reached S r u) : kMG u = kMG S := by
  obtain ⟨nv, iv, fv, qv⟩ := S
  obtain ⟨_, -, rfl⟩ := h
  rfl
theorem kmG_taken {S u : CMx} {r : Int32} (h : mM_taken S r u) : kMG u = kMG S := by
  obtain ⟨nv, iv, fv, qv⟩ := S
  obtain ⟨_, -, rfl⟩ := h
  rfl
theorem kmG_overlap {S u : CMx} {p0 : Int32} {p1 : Int32} {r : Int32} (h : mM_overlap S p0 p1 r u) : kMG u = kMG S := by
  obtain ⟨nv, iv, fv, qv⟩ := S
  obtain ⟨_, _, _, -, rfl⟩ := h
  rfl
theorem kmG_covered {S u : CMx} {p0 : Int32} {r : Int32} (h : mM_covered S p0 r u) : kMG u = kMG S := by
  obtain ⟨nv, iv, fv, qv⟩ := S
  obtain ⟨_, _, _, _, _, _, _, _, _, -, rfl⟩ := h
  rfl
theorem kmG_points {S u : CMx} {p0 : Int32} {r : Int32} (h : mM_points S p0 r u) : kMG u = kMG S := by
  obtain ⟨nv, iv, fv, qv⟩ := S
  obtain ⟨_, _, -, rfl⟩ := h
  rfl
theorem kmG_rings {S u : CMx} {r : Int32} (h : mM_rings S r u) : kMG u = kMG S := by
  obtain ⟨nv, iv, fv, qv⟩ := S
  obtain ⟨_, -, rfl⟩ := h
  rfl
theorem kmG_run {S u : CMx} {p0 : Int32} {p1 : Int32} {r : Int32} (h : mM_run S p0 p1 r u) : kMG u = kMG S := by
  obtain ⟨nv, iv, fv, qv⟩ := S
  obtain ⟨_, _, _, _, -, rfl⟩ := h
  rfl
theorem kmG_when {S u : CMx} {p0 : Int32} {p1 : Int32} {r : Int32} (h : mM_when S p0 p1 r u) : kMG u = kMG S := by
  obtain ⟨nv, iv, fv, qv⟩ := S
  obtain ⟨_, _, _, _, _, _, _, _, _, _, _, -, rfl⟩ := h
  rfl
theorem kmG_then {S u : CMx} {p0 : Int32} {p1 : Int32} {p2 : Int32} {r : Int32} (h : mM_then S p0 p1 p2 r u) : kMG u = kMG S := by
  obtain ⟨nv, iv, fv, qv⟩ := S
  obtain ⟨_, _, _, _, _, _, _, _, _, _, _, -, rfl⟩ := h
  rfl
theorem kmG_spans {S u : CMx} {p0 : Int32} {p1 : Int32} {r : Int32} (h : mM_spans S p0 p1 r u) : kMG u = kMG S := by
  obtain ⟨nv, iv, fv, qv⟩ := S
  obtain ⟨_, _, _, _, _, _, _, _, _, _, _, -, rfl⟩ := h
  rfl
theorem kmG_tells {S u : CMx} {p0 : Int32} {p1 : Int32} {p2 : Int32} {p3 : Int32} {p4 : Int32} {p5 : Int32} {r : Int32} (h : mM_tells S p0 p1 p2 p3 p4 p5 r u) : kMG u = kMG S := by
  obtain ⟨nv, iv, fv, qv⟩ := S
  obtain ⟨_, _, _, _, _, _, _, _, _, _, -, rfl⟩ := h
  rfl
theorem kmG_latest {S u : CMx} {p0 : Int32} {p1 : Int32} {p2 : Int32} {r : Int32} (h : mM_latest S p0 p1 p2 r u) : kMG u = kMG S := by
  obtain ⟨nv, iv, fv, qv⟩ := S
  obtain ⟨_, _, _, _, _, _, _, _, _, _, _, -, rfl⟩ := h
  rfl
theorem kmG_begin {S u : CMx} {r : Int32} (h : mM_begin S r u) : kMG u = kMG S := by
  obtain ⟨nv, iv, fv, qv⟩ := S
  obtain ⟨_, _, _, _, _, -, rfl⟩ := h
  rfl
theorem kmG_waits {S u : CMx} {p0 : Int32} {r : Int32} (h : mM_waits S p0 r u) : kMG u = kMG S := by
  obtain ⟨nv, iv, fv, qv⟩ := S
  obtain ⟨_, _, _, -, rfl⟩ := h
  rfl
theorem kmG_takes {S u : CMx} {p0 : Int32} {r : Int32} (h : mM_takes S p0 r u) : kMG u = kMG S := by
  obtain ⟨nv, iv, fv, qv⟩ := S
  obtain ⟨_, _, _, -, rfl⟩ := h
  rfl
theorem kmG_now {S u : CMx} {p0 : Int32} {r : Int32} (h : mM_now S p0 r u) : kMG u = kMG S := by
  obtain ⟨nv, iv, fv, qv⟩ := S
  obtain ⟨_, -, rfl⟩ := h
  rfl
theorem kmG_clock {S u : CMx} {p0 : Int32} {r : Int32} (h : mM_clock S p0 r u) : kMG u = kMG S := by
  obtain ⟨nv, iv, fv, qv⟩ := S
  obtain ⟨_, -, rfl⟩ := h
  rfl
theorem kmG_replays {S u : CMx} {p0 : Int32} {r : Int32} (h : mM_replays S p0 r u) : kMG u = kMG S := by
  obtain ⟨nv, iv, fv, qv⟩ := S
  obtain ⟨_, _, _, _, _, _, _, _, _, _, _, _, _, _, _, -, rfl⟩ := h
  rfl
def SGp : KXG → KMG → Prop := fun (hs, nc, np, gc, gfull, gx, gway, q1, s2, s3, s4, qs, fz) (x29, m42, x45, r38, r39, r40, r41, r34, r43, r44) => SGL nc np hs gc gfull gx gway q1 s2 s3 s4 qs fz x29 m42 x45 r38 r39 r40 r41 r34 r43 r44
def SG (S : CX) (M : CMx) : Prop := SGp (kXG S) (kMG M)
theorem sg_of {Sx ux : CX} {Sm um : CMx} (h1 : kXG ux = kXG Sx) (h2 : kMG um = kMG Sm) (h : SG Sx Sm) : SG ux um := by
  unfold SG
  rw [h1, h2]; exact h
theorem sg_0 : SG x0S m0S := ⟨rfl, Or.inl rfl⟩
theorem sg_graph {Sx ux : CX} {Sm um : CMx} {p0 : Int32} {a1 : Nat} {r r' : Int32} (h : SRo Sx Sm) (fx : xFact Sx) (fm : mFact Sm) (hg : SG Sx Sm) (hx : xM_graph Sx p0 a1 r ux) (hm : mM_graph Sm p0 a1 r' um) : SG ux um ∧ r = r' := by
  have f1 := m_bk fm
  obtain ⟨nv, iv, vv, fv, qv, fcv, qs, fz, ps, gz⟩ := Sx
  obtain ⟨nw, iw, fw, qw⟩ := Sm
  obtain ⟨e1, e2, hne, e3, e4, em⟩ := h
  have f1 : nw 0 ≤ 1 := f1
  have em : MB (nw 0) (nv 6) (nv 7) (nv 8) (iv 4) (fv 3) (qv 0) (qv 1) (fv 4) (qv 2) (qv 3) (fv 5) (fv 6) (fw 2) (qw 0) (qw 1) (qw 2) (qw 3) (fw 3) (qw 4) (qw 5) (fw 4) (bkN (nw 0) (nw 17) (nw 18)) (bkN (nw 0) (nw 19) (nw 20)) (bkN (nw 0) (nw 21) (nw 22)) (bkN (nw 0) (nw 23) (nw 24)) ∧ STQ (nv 7) (iv 4) (bkN (nw 0) (nw 23) (nw 24)) ∧ WFm (nv 6) (nv 7) (nv 8) (fv 3) (qv 2) (qv 3) (fv 5) (fv 6) (fv 7) (fv 8) ∧ MS (nv 6) (nv 7) (qv 2) (qv 3) (fv 5) (fv 6) (fv 9) (fv 10) (fv 11) ∧ HR (nw 0) (nv 7) (nv 8) (qv 2) (nv 12) (fv 21) (fv 22) (nw 9) (qw 6) (fw 6) := em
  obtain ⟨m1, m2, m3, m4, m5⟩ := em
  have hc3 : nv 6 ≤ 3 := m1.1.2.1
  have np8 : nv 7 ≤ 8 := m1.1.2.2.2.1
  have e13 : bkN (nw 0) (nw 19) (nw 20) = nv 7 := m1.1.2.2.1
  have hg : SGL (nv 6) (nv 7) (nv 1) (nv 13) (nv 14) (iv 6) (iv 7) (qv 8) (fv 23) (fv 24) (fv 25) qs fz (nw 7) (nw 25) (iw 6) (qw 7) (fw 11) (fw 12) (fw 13) (fw 7) (fw 14) (fw 15) := hg
  have no : ∀ p : Int32, nv 7 = 0 → ¬ ((0 : Int32) ≤ p ∧ p < nI (nv 7)) := by
    intro p n0 z
    have z2 := z.2
    rw [n0, show (nI 0 : Int32) = 0 by rfl] at z2
    exact Int32.not_lt.mpr z.1 z2
  obtain ⟨w34, w35, w38, w39, w40, w41, w43, w44, w47, w48, w42, w0, w29, w45, w46, g, rfl⟩ := hm
  rcases hx with ⟨⟨n0, n1, n2⟩, e, rfl⟩ | ⟨sn, hsn, est, z1, z2, z3, z4, z5, zhi, zlo, zfb, zhs, zav, zgo, zfo, zl, zsz, zc, zfu, zx, zwa, zfz, zqs, e, rfl⟩
  · have n0 : nv 7 = 0 := n0
    have n1 : nv 1 = 0 := n1
    obtain ⟨r9, a0, a1, a2, a3, a4, a5, a6, a7, a8, a9, a10, a11, a12, a13, a14, a15, a16, a17, a18, a19, b34, b35, b38, b39, b40, b41, b43, b44, b47, b48, b42, b0, b29, b45, b46, hE, hM, hS⟩ := graph_same (st := 0) m1 m3 m4 f1 (how_1 m1 m3) (Or.inl n0) (nv 1) (nv 13) (nv 14) (iv 6) (iv 7) (iv 8) (iv 9) (nv 15) (nv 16) (nv 17) (qv 8) (fv 23) (fv 24) (fv 25) (fv 26) (fv 27) (fv 28) (fv 48) fz qs (nw 7) (iw 6) (nw 10) (nw 25) (qw 7) (fw 11) (fw 12) (fw 13) (fw 7) (fw 8) (fw 14) (fw 15) (fw 16) (fw 17) p0 a1 hg
    rw [hM] at g
    have hsm : r9 = -1 ∧ b29 = nw 7 := by
      by_cases c : (0 : Int32) ≤ p0 ∧ p0 ≤ 2
      · simp only [sp_EM_graph, slet, if_pos c, show (if nw 0 = 0 then nw 19 else nw 20) = nv 7 from e13, if_pos n0, Prod.mk.injEq] at hM
        exact ⟨hM.1.symm, hM.2.2.2.2.2.2.2.2.2.2.2.2.2.1.symm⟩
      · simp only [sp_EM_graph, slet, if_neg c, Prod.mk.injEq] at hM
        exact ⟨hM.1.symm, hM.2.2.2.2.2.2.2.2.2.2.2.2.2.1.symm⟩
    simp only [Prod.mk.injEq] at g
    obtain ⟨g0, rfl, rfl, rfl, rfl, rfl, rfl, rfl, rfl, rfl, rfl, rfl, rfl, rfl, rfl, rfl⟩ := g
    refine ⟨⟨?_, Or.inl rfl⟩, ?_⟩
    · show 0 = w29
      rw [hsm.2, ← hg.1, n1]
    · rw [e, g0, hsm.1]
      unfold sp_E_8_graph_0
      by_cases c : p0 < 0
      · rw [if_pos c]
      · rw [if_neg c]
        by_cases c2 : 2 < p0
        · rw [if_pos c2]
        · rw [if_neg c2]; rfl
  · have est : iv 4 = nI sn := est
    have hst : nv 7 = 0 ∨ (sn < nv 7 ∧ bkN (nw 0) (nw 23) (nw 24) = sn + 1) := by
      rcases m2 with ⟨n0, -, -⟩ | ⟨s, hs, es, e15⟩
      · exact Or.inl n0
      · have ss : s = sn := (nI_eq (by omega) (by omega)).mp (es.symm.trans est)
        subst ss
        exact Or.inr ⟨hs, e15⟩
    obtain ⟨r9, a0, a1, a2, a3, a4, a5, a6, a7, a8, a9, a10, a11, a12, a13, a14, a15, a16, a17, a18, a19, b34, b35, b38, b39, b40, b41, b43, b44, b47, b48, b42, b0, b29, b45, b46, hE, hM, hS⟩ := graph_same m1 m3 m4 f1 (how_1 m1 m3) hst (nv 1) (nv 13) (nv 14) (iv 6) (iv 7) (iv 8) (iv 9) (nv 15) (nv 16) (nv 17) (qv 8) (fv 23) (fv 24) (fv 25) (fv 26) (fv 27) (fv 28) (fv 48) fz qs (nw 7) (iw 6) (nw 10) (nw 25) (qw 7) (fw 11) (fw 12) (fw 13) (fw 7) (fw 8) (fw 14) (fw 15) (fw 16) (fw 17) p0 a1 hg
    rw [hE] at e
    rw [hM] at g
    simp only [Prod.mk.injEq] at e g
    obtain ⟨e0, rfl, rfl, rfl, rfl, rfl, rfl, rfl, rfl, rfl, rfl, rfl, rfl, rfl, rfl, rfl, rfl, rfl, rfl, rfl, rfl⟩ := e
    obtain ⟨g0, rfl, rfl, rfl, rfl, rfl, rfl, rfl, rfl, rfl, rfl, rfl, rfl, rfl, rfl, rfl⟩ := g
    exact ⟨hS, e0.trans g0.symm⟩
theorem sg_from {Sx ux : CX} {Sm um : CMx} {p0 : Int32} {p1 : Int32} {p2 : Int32} {p3 : Int32} {p4 : Int32} {r r' : Int32} (h : SRo Sx Sm) (fx : xFact Sx) (fm : mFact Sm) (hg : SG Sx Sm) (hx : xM_from Sx p0 p1 p2 p3 p4 r ux) (hm : mM_from Sm p0 p1 p2 p3 p4 r' um) : SG ux um := by
  have f1 := m_bk fm
  obtain ⟨nv, iv, vv, fv, qv, fcv, qs, fz, ps, gz⟩ := Sx
  obtain ⟨nw, iw, fw, qw⟩ := Sm
  obtain ⟨e1, e2, hne, e3, e4, em⟩ := h
  have f1 : nw 0 ≤ 1 := f1
  have em : MB (nw 0) (nv 6) (nv 7) (nv 8) (iv 4) (fv 3) (qv 0) (qv 1) (fv 4) (qv 2) (qv 3) (fv 5) (fv 6) (fw 2) (qw 0) (qw 1) (qw 2) (qw 3) (fw 3) (qw 4) (qw 5) (fw 4) (bkN (nw 0) (nw 17) (nw 18)) (bkN (nw 0) (nw 19) (nw 20)) (bkN (nw 0) (nw 21) (nw 22)) (bkN (nw 0) (nw 23) (nw 24)) ∧ STQ (nv 7) (iv 4) (bkN (nw 0) (nw 23) (nw 24)) ∧ WFm (nv 6) (nv 7) (nv 8) (fv 3) (qv 2) (qv 3) (fv 5) (fv 6) (fv 7) (fv 8) ∧ MS (nv 6) (nv 7) (qv 2) (qv 3) (fv 5) (fv 6) (fv 9) (fv 10) (fv 11) ∧ HR (nw 0) (nv 7) (nv 8) (qv 2) (nv 12) (fv 21) (fv 22) (nw 9) (qw 6) (fw 6) := em
  obtain ⟨m1, m2, m3, m4, m5⟩ := em
  have hc3 : nv 6 ≤ 3 := m1.1.2.1
  have np8 : nv 7 ≤ 8 := m1.1.2.2.2.1
  have e13 : bkN (nw 0) (nw 19) (nw 20) = nv 7 := m1.1.2.2.1
  have hg : SGL (nv 6) (nv 7) (nv 1) (nv 13) (nv 14) (iv 6) (iv 7) (qv 8) (fv 23) (fv 24) (fv 25) qs fz (nw 7) (nw 25) (iw 6) (qw 7) (fw 11) (fw 12) (fw 13) (fw 7) (fw 14) (fw 15) := hg
  have no : ∀ p : Int32, nv 7 = 0 → ¬ ((0 : Int32) ≤ p ∧ p < nI (nv 7)) := by
    intro p n0 z
    have z2 := z.2
    rw [n0, show (nI 0 : Int32) = 0 by rfl] at z2
    exact Int32.not_lt.mpr z.1 z2
  obtain ⟨w34, w35, w38, w39, w40, w41, w43, w44, w47, w48, w42, w0, w46, g, rfl⟩ := hm
  have fr9 : ∀ x, 121 ≤ x → x < 242 → (x < 0 ∨ 0 + 120 < x) := fun x _ _ => by omega
  rcases hx with ⟨⟨n0, n1, n2⟩, e, rfl⟩ | ⟨sn, hsn, est, z1, z2, z3, z4, z5, zhi, zlo, zfb, zav, zgo, zfo, zl, zsz, zc, zfu, zx, zwa, zfz, zqs, e, rfl⟩
  · have n0 : nv 7 = 0 := n0
    have n1 : nv 1 = 0 := n1
    simp only [sp_EM_from, slet, e13, if_neg (no p0 n0), Prod.mk.injEq] at g
    obtain ⟨g0, rfl, rfl, rfl, rfl, rfl, rfl, rfl, rfl, rfl, rfl, rfl, rfl, rfl⟩ := g
    refine ⟨?_, Or.inl rfl⟩
    show 0 = nw 7
    rw [← hg.1, n1]
  · obtain ⟨r9, _, _, _, _, _, _, _, _, _, _, _, _, _, _, _, _, _, _, _, _, _, _, _, _, _, _, _, _, _, _, _, _, hE, hM, hF, hR⟩ := from_same (o := 0) m1 m3 m4 f1 (how_1 m1 m3) (nv 18) (nv 19) (iv 10) (iv 11) (iv 12) (iv 13) (nv 20) (nv 21) (nv 22) (qv 9) (fv 29) (fv 30) (fv 31) (fv 32) (fv 33) (fv 34) (fv 48) fz qs (nw 10) (nw 26) (qw 7) (fw 11) (fw 12) (fw 13) (fw 7) (fw 8) (fw 14) (fw 15) (fw 16) (fw 17) p0 p1 p2 p3 p4
    rw [hE] at e
    rw [hM] at g
    simp only [Prod.mk.injEq] at e g
    obtain ⟨e0, rfl, rfl, rfl, rfl, rfl, rfl, rfl, rfl, rfl, rfl, rfl, rfl, rfl, rfl, rfl, rfl, rfl, rfl, rfl⟩ := e
    obtain ⟨g0, rfl, rfl, rfl, rfl, rfl, rfl, rfl, rfl, rfl, rfl, rfl, rfl, rfl⟩ := g
    exact SGL.fr hc3 hg (fun x u v => hF x (fr9 x u v)) hR
theorem sg_avoids {Sx ux : CX} {Sm um : CMx} {p0 : Int32} {p1 : Int32} {r r' : Int32} (h : SRo Sx Sm) (fx : xFact Sx) (fm : mFact Sm) (hg : SG Sx Sm) (hx : xM_avoids Sx p0 p1 r ux) (hm : mM_avoids Sm p0 p1 r' um) : SG ux um := by
  have f1 := m_bk fm
  obtain ⟨nv, iv, vv, fv, qv, fcv, qs, fz, ps, gz⟩ := Sx
  obtain ⟨nw, iw, fw, qw⟩ := Sm
  obtain ⟨e1, e2, hne, e3, e4, em⟩ := h
  have f1 : nw 0 ≤ 1 := f1
  have em : MB (nw 0) (nv 6) (nv 7) (nv 8) (iv 4) (fv 3) (qv 0) (qv 1) (fv 4) (qv 2) (qv 3) (fv 5) (fv 6) (fw 2) (qw 0) (qw 1) (qw 2) (qw 3) (fw 3) (qw 4) (qw 5) (fw 4) (bkN (nw 0) (nw 17) (nw 18)) (bkN (nw 0) (nw 19) (nw 20)) (bkN (nw 0) (nw 21) (nw 22)) (bkN (nw 0) (nw 23) (nw 24)) ∧ STQ (nv 7) (iv 4) (bkN (nw 0) (nw 23) (nw 24)) ∧ WFm (nv 6) (nv 7) (nv 8) (fv 3) (qv 2) (qv 3) (fv 5) (fv 6) (fv 7) (fv 8) ∧ MS (nv 6) (nv 7) (qv 2) (qv 3) (fv 5) (fv 6) (fv 9) (fv 10) (fv 11) ∧ HR (nw 0) (nv 7) (nv 8) (qv 2) (nv 12) (fv 21) (fv 22) (nw 9) (qw 6) (fw 6) := em
  obtain ⟨m1, m2, m3, m4, m5⟩ := em
  have hc3 : nv 6 ≤ 3 := m1.1.2.1
  have np8 : nv 7 ≤ 8 := m1.1.2.2.2.1
  have e13 : bkN (nw 0) (nw 19) (nw 20) = nv 7 := m1.1.2.2.1
  have hg : SGL (nv 6) (nv 7) (nv 1) (nv 13) (nv 14) (iv 6) (iv 7) (qv 8) (fv 23) (fv 24) (fv 25) qs fz (nw 7) (nw 25) (iw 6) (qw 7) (fw 11) (fw 12) (fw 13) (fw 7) (fw 14) (fw 15) := hg
  have no : ∀ p : Int32, nv 7 = 0 → ¬ ((0 : Int32) ≤ p ∧ p < nI (nv 7)) := by
    intro p n0 z
    have z2 := z.2
    rw [n0, show (nI 0 : Int32) = 0 by rfl] at z2
    exact Int32.not_lt.mpr z.1 z2
  obtain ⟨w34, w35, w38, w39, w40, w41, w43, w44, w47, w48, w42, w0, w46, g, rfl⟩ := hm
  have fr9 : ∀ x, 121 ≤ x → x < 242 → (x < 0 ∨ 0 + 120 < x) := fun x _ _ => by omega
  rcases hx with ⟨⟨n0, n1, n2⟩, e, rfl⟩ | ⟨sn, hsn, est, z1, z2, z3, z4, z5, zhi, zlo, zfb, zav, zgo, zfo, zl, zsz, zc, zfu, zx, zwa, zfz, zqs, e, rfl⟩
  · have n0 : nv 7 = 0 := n0
    have n1 : nv 1 = 0 := n1
    simp only [sp_EM_avoids, slet, e13, if_neg (no p0 n0), Prod.mk.injEq] at g
    obtain ⟨g0, rfl, rfl, rfl, rfl, rfl, rfl, rfl, rfl, rfl, rfl, rfl, rfl, rfl⟩ := g
    refine ⟨?_, Or.inl rfl⟩
    show 0 = nw 7
    rw [← hg.1, n1]
  · have est : iv 4 = nI sn := est
    rcases m2 with ⟨n0, -, -⟩ | ⟨s, hs, es, e15⟩
    · simp only [sp_E_8_avoids, slet, if_neg (no p0 n0), Prod.mk.injEq] at e
      simp only [sp_EM_avoids, slet, e13, if_neg (no p0 n0), Prod.mk.injEq] at g
      obtain ⟨e0, rfl, rfl, rfl, rfl, rfl, rfl, rfl, rfl, rfl, rfl, rfl, rfl, rfl, rfl, rfl, rfl, rfl, rfl, rfl⟩ := e
      obtain ⟨g0, rfl, rfl, rfl, rfl, rfl, rfl, rfl, rfl, rfl, rfl, rfl, rfl, rfl⟩ := g
      exact hg
    · have ss : s = sn := (nI_eq (by omega) (by omega)).mp (es.symm.trans est)
      subst ss
      obtain ⟨r9, _, _, _, _, _, _, _, _, _, _, _, _, _, _, _, _, _, _, _, _, _, _, _, _, _, _, _, _, _, _, _, _, hE, hM, hF, hR⟩ := avoids_same (o := 0) m1 m3 m4 f1 (how_1 m1 m3) hs e15 (nv 18) (nv 19) (iv 10) (iv 11) (iv 12) (iv 13) (nv 20) (nv 21) (nv 22) (qv 9) (fv 29) (fv 30) (fv 31) (fv 32) (fv 33) (fv 34) (fv 48) fz qs (nw 10) (nw 26) (qw 7) (fw 11) (fw 12) (fw 13) (fw 7) (fw 8) (fw 14) (fw 15) (fw 16) (fw 17) p0 p1
      rw [hE] at e
      rw [hM] at g
      simp only [Prod.mk.injEq] at e g
      obtain ⟨e0, rfl, rfl, rfl, rfl, rfl, rfl, rfl, rfl, rfl, rfl, rfl, rfl, rfl, rfl, rfl, rfl, rfl, rfl, rfl⟩ := e
      obtain ⟨g0, rfl, rfl, rfl, rfl, rfl, rfl, rfl, rfl, rfl, rfl, rfl, rfl, rfl⟩ := g
      exact SGL.fr hc3 hg (fun x u v => hF x (fr9 x u v)) hR
theorem sg_lets {Sx ux : CX} {Sm um : CMx} {p0 : Int32} {p1 : Int32} {p2 : Int32} {p3 : Int32} {r r' : Int32} (h : SRo Sx Sm) (fx : xFact Sx) (fm : mFact Sm) (hg : SG Sx Sm) (hx : xM_lets Sx p0 p1 p2 p3 r ux) (hm : mM_lets Sm p0 p1 p2 p3 r' um) : SG ux um := by
  have f1 := m_bk fm
  obtain ⟨nv, iv, vv, fv, qv, fcv, qs, fz, ps, gz⟩ := Sx
  obtain ⟨nw, iw, fw, qw⟩ := Sm
  obtain ⟨e1, e2, hne, e3, e4, em⟩ := h
  have f1 : nw 0 ≤ 1 := f1
  have em : MB (nw 0) (nv 6) (nv 7) (nv 8) (iv 4) (fv 3) (qv 0) (qv 1) (fv 4) (qv 2) (qv 3) (fv 5) (fv 6) (fw 2) (qw 0) (qw 1) (qw 2) (qw 3) (fw 3) (qw 4) (qw 5) (fw 4) (bkN (nw 0) (nw 17) (nw 18)) (bkN (nw 0) (nw 19) (nw 20)) (bkN (nw 0) (nw 21) (nw 22)) (bkN (nw 0) (nw 23) (nw 24)) ∧ STQ (nv 7) (iv 4) (bkN (nw 0) (nw 23) (nw 24)) ∧ WFm (nv 6) (nv 7) (nv 8) (fv 3) (qv 2) (qv 3) (fv 5) (fv 6) (fv 7) (fv 8) ∧ MS (nv 6) (nv 7) (qv 2) (qv 3) (fv 5) (fv 6) (fv 9) (fv 10) (fv 11) ∧ HR (nw 0) (nv 7) (nv 8) (qv 2) (nv 12) (fv 21) (fv 22) (nw 9) (qw 6) (fw 6) := em
  obtain ⟨m1, m2, m3, m4, m5⟩ := em
  have hc3 : nv 6 ≤ 3 := m1.1.2.1
  have np8 : nv 7 ≤ 8 := m1.1.2.2.2.1
  have e13 : bkN (nw 0) (nw 19) (nw 20) = nv 7 := m1.1.2.2.1
  have hg : SGL (nv 6) (nv 7) (nv 1) (nv 13) (nv 14) (iv 6) (iv 7) (qv 8) (fv 23) (fv 24) (fv 25) qs fz (nw 7) (nw 25) (iw 6) (qw 7) (fw 11) (fw 12) (fw 13) (fw 7) (fw 14) (fw 15) := hg
  have no : ∀ p : Int32, nv 7 = 0 → ¬ ((0 : Int32) ≤ p ∧ p < nI (nv 7)) := by
    intro p n0 z
    have z2 := z.2
    rw [n0, show (nI 0 : Int32) = 0 by rfl] at z2
    exact Int32.not_lt.mpr z.1 z2
  obtain ⟨w11, w34, w35, w38, w39, w40, w41, w43, w44, w47, w48, w42, w0, w46, g, rfl⟩ := hm
  have fr9 : ∀ x, 121 ≤ x → x < 242 → (x < 0 ∨ 0 + 120 < x) := fun x _ _ => by omega
  have nr : nv 7 = 0 → sp_E_8_slotOf (nv 7) (nv 8) (qv 2) p0 p1 = 0 ∧ sp_EM_isCondition (nw 0) (qw 0) (qw 3) (nw 19) (nw 20) (nw 21) (nw 22) p0 p1 = 0 := by
    intro n0
    rw [n0] at m1
    obtain ⟨s1, s2⟩ := slot_0 m1 p0 p1
    exact ⟨by rw [n0]; exact s1, s2⟩
  rcases hx with ⟨⟨n0, n1, n2⟩, e, rfl⟩ | ⟨sn, hsn, est, z12, z13, z14, z15, z16, z1, z2, z3, z4, z5, zhi, zlo, zfb, z11, zav, zgo, zfo, zl, zsz, zc, zfu, zx, zwa, zfz, zqs, e, rfl⟩
  · have n0 : nv 7 = 0 := n0
    have n1 : nv 1 = 0 := n1
    simp only [sp_EM_lets, slet, (nr n0).2, if_neg (show ¬ (0 : Nat) = 1 by decide), Prod.mk.injEq] at g
    obtain ⟨g0, rfl, rfl, rfl, rfl, rfl, rfl, rfl, rfl, rfl, rfl, rfl, rfl, rfl, rfl⟩ := g
    refine ⟨?_, Or.inl rfl⟩
    show 0 = nw 7
    rw [← hg.1, n1]
  · have est : iv 4 = nI sn := est
    rcases m2 with ⟨n0, -, -⟩ | ⟨s, hs, es, e15⟩
    · simp only [sp_E_8_lets, slet, (nr n0).1, reduceIte, Prod.mk.injEq] at e
      simp only [sp_EM_lets, slet, (nr n0).2, if_neg (show ¬ (0 : Nat) = 1 by decide), Prod.mk.injEq] at g
      obtain ⟨e0, rfl, rfl, rfl, rfl, rfl, rfl, rfl, rfl, rfl, rfl, rfl, rfl, rfl, rfl, rfl, rfl, rfl, rfl, rfl, rfl, rfl, rfl, rfl, rfl, rfl⟩ := e
      obtain ⟨g0, rfl, rfl, rfl, rfl, rfl, rfl, rfl, rfl, rfl, rfl, rfl, rfl, rfl, rfl⟩ := g
      exact hg
    · have ss : s = sn := (nI_eq (by omega) (by omega)).mp (es.symm.trans est)
      subst ss
      obtain ⟨r9, _, _, _, _, _, _, _, _, _, _, _, _, _, _, _, _, _, _, _, _, _, _, _, _, _, _, _, _, _, _, _, _, _, _, _, _, _, _, _, hE, hM, hF, hR⟩ := lets_same (o := 0) m1 m3 m4 f1 (how_1 m1 m3) hs e15 (nv 18) (nv 19) (iv 10) (iv 11) (iv 12) (iv 13) (nv 20) (nv 21) (nv 22) (qv 9) (fv 29) (fv 30) (fv 31) (fv 32) (fv 33) (fv 34) (fv 48) fz qs (nw 10) (nw 26) (qw 7) (fw 11) (fw 12) (fw 13) (fw 7) (fw 8) (fw 14) (fw 15) (fw 16) (fw 17) p0 p1 p2 p3
      rw [hE] at e
      rw [hM] at g
      simp only [Prod.mk.injEq] at e g
      obtain ⟨e0, rfl, rfl, rfl, rfl, rfl, rfl, rfl, rfl, rfl, rfl, rfl, rfl, rfl, rfl, rfl, rfl, rfl, rfl, rfl, rfl, rfl, rfl, rfl, rfl, rfl⟩ := e
      obtain ⟨g0, rfl, rfl, rfl, rfl, rfl, rfl, rfl, rfl, rfl, rfl, rfl, rfl, rfl, rfl⟩ := g
      exact SGL.fr hc3 hg (fun x u v => hF x (fr9 x u v)) hR
theorem sg_soonest {Sx ux : CX} {Sm um : CMx} {p0 : Int32} {p1 : Int32} {r r' : Int32} (h : SRo Sx Sm) (fx : xFact Sx) (fm : mFact Sm) (hg : SG Sx Sm) (hx : xM_soonest Sx p0 p1 r ux) (hm : mM_soonest Sm p0 p1 r' um) : SG ux um := by
  have k1 := kxG_soonest hx
  have f1 := m_bk fm
  obtain ⟨nv, iv, vv, fv, qv, fcv, qs, fz, ps, gz⟩ := Sx
  obtain ⟨nw, iw, fw, qw⟩ := Sm
  obtain ⟨e1, e2, hne, e3, e4, em⟩ := h
  have f1 : nw 0 ≤ 1 := f1
  have em : MB (nw 0) (nv 6) (nv 7) (nv 8) (iv 4) (fv 3) (qv 0) (qv 1) (fv 4) (qv 2) (qv 3) (fv 5) (fv 6) (fw 2) (qw 0) (qw 1) (qw 2) (qw 3) (fw 3) (qw 4) (qw 5) (fw 4) (bkN (nw 0) (nw 17) (nw 18)) (bkN (nw 0) (nw 19) (nw 20)) (bkN (nw 0) (nw 21) (nw 22)) (bkN (nw 0) (nw 23) (nw 24)) ∧ STQ (nv 7) (iv 4) (bkN (nw 0) (nw 23) (nw 24)) ∧ WFm (nv 6) (nv 7) (nv 8) (fv 3) (qv 2) (qv 3) (fv 5) (fv 6) (fv 7) (fv 8) ∧ MS (nv 6) (nv 7) (qv 2) (qv 3) (fv 5) (fv 6) (fv 9) (fv 10) (fv 11) ∧ HR (nw 0) (nv 7) (nv 8) (qv 2) (nv 12) (fv 21) (fv 22) (nw 9) (qw 6) (fw 6) := em
  obtain ⟨m1, m2, m3, m4, m5⟩ := em
  have hc3 : nv 6 ≤ 3 := m1.1.2.1
  have np8 : nv 7 ≤ 8 := m1.1.2.2.2.1
  have e13 : bkN (nw 0) (nw 19) (nw 20) = nv 7 := m1.1.2.2.1
  have hg : SGL (nv 6) (nv 7) (nv 1) (nv 13) (nv 14) (iv 6) (iv 7) (qv 8) (fv 23) (fv 24) (fv 25) qs fz (nw 7) (nw 25) (iw 6) (qw 7) (fw 11) (fw 12) (fw 13) (fw 7) (fw 14) (fw 15) := hg
  have no : ∀ p : Int32, nv 7 = 0 → ¬ ((0 : Int32) ≤ p ∧ p < nI (nv 7)) := by
    intro p n0 z
    have z2 := z.2
    rw [n0, show (nI 0 : Int32) = 0 by rfl] at z2
    exact Int32.not_lt.mpr z.1 z2
  obtain ⟨w34, w35, w38, w39, w40, w41, w43, w44, w47, w48, w42, w0, w46, g, rfl⟩ := hm
  have rf : RFR1 (qw 7) (fw 11) (fw 12) (fw 13) (fw 7) (fw 14) (fw 15) w38 w39 w40 w41 w34 w43 w44 := by
    rcases m2 with ⟨n0, -, -⟩ | ⟨s, hs, es, e15⟩
    · simp only [sp_EM_soonest, slet, e13, if_neg (no p0 n0), Prod.mk.injEq] at g
      obtain ⟨g0, rfl, rfl, rfl, rfl, rfl, rfl, rfl, rfl, rfl, rfl, rfl, rfl, rfl⟩ := g
      exact ⟨FRM1.rf, fun _ _ => ⟨rfl, rfl⟩⟩
    · obtain ⟨_, _, _, _, _, _, _, _, _, _, _, _, _, _, _, _, _, _, _, _, _, _, _, _, _, _, _, _, _, _, _, _, _, _, hE, hM, hK, hR⟩ := soonest_same (o := 0) m1 m3 m4 f1 (how_1 m1 m3) hs e15 0 (nv 23) (nv 24) (iv 14) (iv 15) (iv 16) (iv 17) (nv 25) (nv 26) (nv 27) (qv 10) (fv 35) (fv 36) (fv 37) (fv 38) (fv 39) (fv 40) (fv 48) gz ps (Or.inl rfl) (nw 10) (nw 26) (qw 7) (fw 11) (fw 12) (fw 13) (fw 7) (fw 8) (fw 14) (fw 15) (fw 16) (fw 17) p0 p1
      rw [hM] at g
      simp only [Prod.mk.injEq] at g
      obtain ⟨g0, rfl, rfl, rfl, rfl, rfl, rfl, rfl, rfl, rfl, rfl, rfl, rfl, rfl⟩ := g
      exact hR
  unfold SG
  rw [k1]
  exact SGL.fr hc3 hg (fun x _ _ => ⟨rfl, rfl⟩) rf
theorem sg_state {Sx ux : CX} {Sm um : CMx} {p0 : Int32} {p1 : Int32} {r r' : Int32} (h : SRo Sx Sm) (fx : xFact Sx) (fm : mFact Sm) (hg : SG Sx Sm) (hx : xM_state Sx p0 p1 r ux) (hm : mM_state Sm p0 p1 r' um) : SG ux um := by
  have k2 := kmG_state hm
  have f1 := m_bk fm
  obtain ⟨nv, iv, vv, fv, qv, fcv, qs, fz, ps, gz⟩ := Sx
  obtain ⟨nw, iw, fw, qw⟩ := Sm
  obtain ⟨e1, e2, hne, e3, e4, em⟩ := h
  have f1 : nw 0 ≤ 1 := f1
  have em : MB (nw 0) (nv 6) (nv 7) (nv 8) (iv 4) (fv 3) (qv 0) (qv 1) (fv 4) (qv 2) (qv 3) (fv 5) (fv 6) (fw 2) (qw 0) (qw 1) (qw 2) (qw 3) (fw 3) (qw 4) (qw 5) (fw 4) (bkN (nw 0) (nw 17) (nw 18)) (bkN (nw 0) (nw 19) (nw 20)) (bkN (nw 0) (nw 21) (nw 22)) (bkN (nw 0) (nw 23) (nw 24)) ∧ STQ (nv 7) (iv 4) (bkN (nw 0) (nw 23) (nw 24)) ∧ WFm (nv 6) (nv 7) (nv 8) (fv 3) (qv 2) (qv 3) (fv 5) (fv 6) (fv 7) (fv 8) ∧ MS (nv 6) (nv 7) (qv 2) (qv 3) (fv 5) (fv 6) (fv 9) (fv 10) (fv 11) ∧ HR (nw 0) (nv 7) (nv 8) (qv 2) (nv 12) (fv 21) (fv 22) (nw 9) (qw 6) (fw 6) := em
  obtain ⟨m1, m2, m3, m4, m5⟩ := em
  have hc3 : nv 6 ≤ 3 := m1.1.2.1
  have np8 : nv 7 ≤ 8 := m1.1.2.2.2.1
  have e13 : bkN (nw 0) (nw 19) (nw 20) = nv 7 := m1.1.2.2.1
  have hg : SGL (nv 6) (nv 7) (nv 1) (nv 13) (nv 14) (iv 6) (iv 7) (qv 8) (fv 23) (fv 24) (fv 25) qs fz (nw 7) (nw 25) (iw 6) (qw 7) (fw 11) (fw 12) (fw 13) (fw 7) (fw 14) (fw 15) := hg
  have no : ∀ p : Int32, nv 7 = 0 → ¬ ((0 : Int32) ≤ p ∧ p < nI (nv 7)) := by
    intro p n0 z
    have z2 := z.2
    rw [n0, show (nI 0 : Int32) = 0 by rfl] at z2
    exact Int32.not_lt.mpr z.1 z2
  obtain ⟨zcv, zct, zce, zrk, zru, zfz, zqs, hF, rfl⟩ := hx
  have rf : RFR1 (qw 7) (fw 11) (fw 12) (fw 13) (fw 7) (fw 14) (fw 15) (qw 7) (fw 11) (fw 12) (fw 13) (fw 7) (fw 14) (fw 15) := ⟨FRM1.rf, fun _ _ => ⟨rfl, rfl⟩⟩
  show SGp _ (kMG um)
  rw [k2]
  exact SGL.fr hc3 hg (fun x _ v => hF x v) rf
theorem sg_covered {Sx ux : CX} {Sm um : CMx} {p0 : Int32} {r r' : Int32} (h : SRo Sx Sm) (fx : xFact Sx) (fm : mFact Sm) (hg : SG Sx Sm) (hx : xM_covered Sx p0 r ux) (hm : mM_covered Sm p0 r' um) : SG ux um := by
  have k2 := kmG_covered hm
  have f1 := m_bk fm
  obtain ⟨nv, iv, vv, fv, qv, fcv, qs, fz, ps, gz⟩ := Sx
  obtain ⟨nw, iw, fw, qw⟩ := Sm
  obtain ⟨e1, e2, hne, e3, e4, em⟩ := h
  have f1 : nw 0 ≤ 1 := f1
  have em : MB (nw 0) (nv 6) (nv 7) (nv 8) (iv 4) (fv 3) (qv 0) (qv 1) (fv 4) (qv 2) (qv 3) (fv 5) (fv 6) (fw 2) (qw 0) (qw 1) (qw 2) (qw 3) (fw 3) (qw 4) (qw 5) (fw 4) (bkN (nw 0) (nw 17) (nw 18)) (bkN (nw 0) (nw 19) (nw 20)) (bkN (nw 0) (nw 21) (nw 22)) (bkN (nw 0) (nw 23) (nw 24)) ∧ STQ (nv 7) (iv 4) (bkN (nw 0) (nw 23) (nw 24)) ∧ WFm (nv 6) (nv 7) (nv 8) (fv 3) (qv 2) (qv 3) (fv 5) (fv 6) (fv 7) (fv 8) ∧ MS (nv 6) (nv 7) (qv 2) (qv 3) (fv 5) (fv 6) (fv 9) (fv 10) (fv 11) ∧ HR (nw 0) (nv 7) (nv 8) (qv 2) (nv 12) (fv 21) (fv 22) (nw 9) (qw 6) (fw 6) := em
  obtain ⟨m1, m2, m3, m4, m5⟩ := em
  have hc3 : nv 6 ≤ 3 := m1.1.2.1
  have np8 : nv 7 ≤ 8 := m1.1.2.2.2.1
  have e13 : bkN (nw 0) (nw 19) (nw 20) = nv 7 := m1.1.2.2.1
  have hg : SGL (nv 6) (nv 7) (nv 1) (nv 13) (nv 14) (iv 6) (iv 7) (qv 8) (fv 23) (fv 24) (fv 25) qs fz (nw 7) (nw 25) (iw 6) (qw 7) (fw 11) (fw 12) (fw 13) (fw 7) (fw 14) (fw 15) := hg
  have no : ∀ p : Int32, nv 7 = 0 → ¬ ((0 : Int32) ≤ p ∧ p < nI (nv 7)) := by
    intro p n0 z
    have z2 := z.2
    rw [n0, show (nI 0 : Int32) = 0 by rfl] at z2
    exact Int32.not_lt.mpr z.1 z2
  obtain ⟨zcv, zct, zce, zrk, zru, zfz, zqs, hF, rfl⟩ := hx
  have rf : RFR1 (qw 7) (fw 11) (fw 12) (fw 13) (fw 7) (fw 14) (fw 15) (qw 7) (fw 11) (fw 12) (fw 13) (fw 7) (fw 14) (fw 15) := ⟨FRM1.rf, fun _ _ => ⟨rfl, rfl⟩⟩
  show SGp _ (kMG um)
  rw [k2]
  exact SGL.fr hc3 hg (fun x _ v => hF x v) rf
theorem sg_overlap {Sx ux : CX} {Sm um : CMx} {p0 : Int32} {p1 : Int32} {r r' : Int32} (h : SRo Sx Sm) (fx : xFact Sx) (fm : mFact Sm) (hg : SG Sx Sm) (hx : xM_overlap Sx p0 p1 r ux) (hm : mM_overlap Sm p0 p1 r' um) : SG ux um := by
  have k2 := kmG_overlap hm
  have f1 := m_bk fm
  obtain ⟨nv, iv, vv, fv, qv, fcv, qs, fz, ps, gz⟩ := Sx
  obtain ⟨nw, iw, fw, qw⟩ := Sm
  obtain ⟨e1, e2, hne, e3, e4, em⟩ := h
  have f1 : nw 0 ≤ 1 := f1
  have em : MB (nw 0) (nv 6) (nv 7) (nv 8) (iv 4) (fv 3) (qv 0) (qv 1) (fv 4) (qv 2) (qv 3) (fv 5) (fv 6) (fw 2) (qw 0) (qw 1) (qw 2) (qw 3) (fw 3) (qw 4) (qw 5) (fw 4) (bkN (nw 0) (nw 17) (nw 18)) (bkN (nw 0) (nw 19) (nw 20)) (bkN (nw 0) (nw 21) (nw 22)) (bkN (nw 0) (nw 23) (nw 24)) ∧ STQ (nv 7) (iv 4) (bkN (nw 0) (nw 23) (nw 24)) ∧ WFm (nv 6) (nv 7) (nv 8) (fv 3) (qv 2) (qv 3) (fv 5) (fv 6) (fv 7) (fv 8) ∧ MS (nv 6) (nv 7) (qv 2) (qv 3) (fv 5) (fv 6) (fv 9) (fv 10) (fv 11) ∧ HR (nw 0) (nv 7) (nv 8) (qv 2) (nv 12) (fv 21) (fv 22) (nw 9) (qw 6) (fw 6) := em
  obtain ⟨m1, m2, m3, m4, m5⟩ := em
  have hc3 : nv 6 ≤ 3 := m1.1.2.1
  have np8 : nv 7 ≤ 8 := m1.1.2.2.2.1
  have e13 : bkN (nw 0) (nw 19) (nw 20) = nv 7 := m1.1.2.2.1
  have hg : SGL (nv 6) (nv 7) (nv 1) (nv 13) (nv 14) (iv 6) (iv 7) (qv 8) (fv 23) (fv 24) (fv 25) qs fz (nw 7) (nw 25) (iw 6) (qw 7) (fw 11) (fw 12) (fw 13) (fw 7) (fw 14) (fw 15) := hg
  have no : ∀ p : Int32, nv 7 = 0 → ¬ ((0 : Int32) ≤ p ∧ p < nI (nv 7)) := by
    intro p n0 z
    have z2 := z.2
    rw [n0, show (nI 0 : Int32) = 0 by rfl] at z2
    exact Int32.not_lt.mpr z.1 z2
  obtain ⟨zfz, zqs, hF, rfl⟩ := hx
  have rf : RFR1 (qw 7) (fw 11) (fw 12) (fw 13) (fw 7) (fw 14) (fw 15) (qw 7) (fw 11) (fw 12) (fw 13) (fw 7) (fw 14) (fw 15) := ⟨FRM1.rf, fun _ _ => ⟨rfl, rfl⟩⟩
  show SGp _ (kMG um)
  rw [k2]
  exact SGL.fr hc3 hg (fun x _ v => hF x v) rf
theorem sg_automaton {Sx ux : CX} {Sm um : CMx} {r r' : Int32} (h : SRo Sx Sm) (fx : xFact Sx) (fm : mFact Sm) (hg : SG Sx Sm) (hx : xM_automaton Sx r ux) (hm : mM_automaton Sm r' um) : SG ux um := by
  have f1 := m_bk fm
  have tp := x_tp fx
  obtain ⟨nv, iv, vv, fv, qv, fcv, qs, fz, ps, gz⟩ := Sx
  obtain ⟨nw, iw, fw, qw⟩ := Sm
  obtain ⟨vw, z0, z1, z2, z3, z4, z5, z6, z7, z8, z9, z10, z11, z12, z13, z14, z15, z16, z17, z18, z19, z20, z21, z22, z23, z24, z25, z26, z27, z28, z29, e, hx⟩ := hx
  obtain ⟨y0, y1, y2, y3, y4, y5, y6, y7, y8, y9, y10, y11, y12, y13, y14, y15, y16, y17, y18, y19, y20, y21, y22, y23, y24, y25, y26, y27, y28, y29, y30, y31, y32, y33, g, rfl⟩ := hm
  obtain ⟨e1, e2, hne, e3, e4, em⟩ := h
  have f1 : nw 0 ≤ 1 := f1
  have tp : nv 0 ≤ 900 := tp
  have e1 : nv 0 = nw 1 := e1
  have e2 : fv 0 = fw 5 := e2
  have hne : ∀ i, fv 0 i ≠ -1 := hne
  have hg : SGL (nv 6) (nv 7) (nv 1) (nv 13) (nv 14) (iv 6) (iv 7) (qv 8) (fv 23) (fv 24) (fv 25) qs fz (nw 7) (nw 25) (iw 6) (qw 7) (fw 11) (fw 12) (fw 13) (fw 7) (fw 14) (fw 15) := hg
  have er := congrArg Prod.fst e
  rw [← e1, ← e2] at g
  rcases (show nw 0 = 0 ∨ nw 0 = 1 by omega) with w0 | w0
  · rw [w0] at g
    rcases au_x0 hne tp e g with ⟨hr1, ⟨-, k1, -⟩, ⟨k2, -⟩, -⟩ | ⟨hr1, ⟨-, k1, -⟩, ⟨k2, -⟩, -⟩
    · rcases hx with ⟨n1, -⟩ | ⟨-, rfl⟩
      · exact absurd (er.symm.trans hr1) n1
      · show SGL (nv 6) (nv 7) z16 (nv 13) (nv 14) (iv 6) (iv 7) (qv 8) (fv 23) (fv 24) (fv 25) qs fz y31 (nw 25) (iw 6) (qw 7) (fw 11) (fw 12) (fw 13) (fw 7) (fw 14) (fw 15)
        rw [k1, k2]; exact hg
    · rcases hx with ⟨-, rfl⟩ | ⟨n1, -⟩
      · exact ⟨k1.trans k2.symm, Or.inl k1⟩
      · exact absurd (er.trans n1) hr1
  · rw [w0] at g
    rcases au_x1 hne tp e g with ⟨hr1, ⟨-, k1, -⟩, ⟨k2, -⟩, -⟩ | ⟨hr1, ⟨-, k1, -⟩, ⟨k2, -⟩, -⟩
    · rcases hx with ⟨n1, -⟩ | ⟨-, rfl⟩
      · exact absurd (er.symm.trans hr1) n1
      · show SGL (nv 6) (nv 7) z16 (nv 13) (nv 14) (iv 6) (iv 7) (qv 8) (fv 23) (fv 24) (fv 25) qs fz y31 (nw 25) (iw 6) (qw 7) (fw 11) (fw 12) (fw 13) (fw 7) (fw 14) (fw 15)
        rw [k1, k2]; exact hg
    · rcases hx with ⟨-, rfl⟩ | ⟨n1, -⟩
      · exact ⟨k1.trans k2.symm, Or.inl k1⟩
      · exact absurd (er.trans n1) hr1
theorem sg_number {Sx ux : CX} {Sm um : CMx} {p0 : Int32} {p1 : Int32} {p2 : Int32} {r r' : Int32} (h : SRo Sx Sm) (fx : xFact Sx) (fm : mFact Sm) (hg : SG Sx Sm) (hx : xM_number Sx p0 p1 p2 r ux) (hm : mM_number Sm p0 p1 p2 r' um) : SG ux um := by
  have f1 := m_bk fm
  obtain ⟨nv, iv, vv, fv, qv, fcv, qs, fz, ps, gz⟩ := Sx
  obtain ⟨nw, iw, fw, qw⟩ := Sm
  obtain ⟨e1, e2, hne, e3, e4, em⟩ := h
  have f1 : nw 0 ≤ 1 := f1
  have em : MB (nw 0) (nv 6) (nv 7) (nv 8) (iv 4) (fv 3) (qv 0) (qv 1) (fv 4) (qv 2) (qv 3) (fv 5) (fv 6) (fw 2) (qw 0) (qw 1) (qw 2) (qw 3) (fw 3) (qw 4) (qw 5) (fw 4) (bkN (nw 0) (nw 17) (nw 18)) (bkN (nw 0) (nw 19) (nw 20)) (bkN (nw 0) (nw 21) (nw 22)) (bkN (nw 0) (nw 23) (nw 24)) ∧ STQ (nv 7) (iv 4) (bkN (nw 0) (nw 23) (nw 24)) ∧ WFm (nv 6) (nv 7) (nv 8) (fv 3) (qv 2) (qv 3) (fv 5) (fv 6) (fv 7) (fv 8) ∧ MS (nv 6) (nv 7) (qv 2) (qv 3) (fv 5) (fv 6) (fv 9) (fv 10) (fv 11) ∧ HR (nw 0) (nv 7) (nv 8) (qv 2) (nv 12) (fv 21) (fv 22) (nw 9) (qw 6) (fw 6) := em
  obtain ⟨m1, m2, m3, m4, m5⟩ := em
  have hc3 : nv 6 ≤ 3 := m1.1.2.1
  have np8 : nv 7 ≤ 8 := m1.1.2.2.2.1
  have e13 : bkN (nw 0) (nw 19) (nw 20) = nv 7 := m1.1.2.2.1
  have hg : SGL (nv 6) (nv 7) (nv 1) (nv 13) (nv 14) (iv 6) (iv 7) (qv 8) (fv 23) (fv 24) (fv 25) qs fz (nw 7) (nw 25) (iw 6) (qw 7) (fw 11) (fw 12) (fw 13) (fw 7) (fw 14) (fw 15) := hg
  have no : ∀ p : Int32, nv 7 = 0 → ¬ ((0 : Int32) ≤ p ∧ p < nI (nv 7)) := by
    intro p n0 z
    have z2 := z.2
    rw [n0, show (nI 0 : Int32) = 0 by rfl] at z2
    exact Int32.not_lt.mpr z.1 z2
  obtain ⟨w11, w31, w32, w0, w29, w30, w33, g, rfl⟩ := hm
  rcases hx with ⟨⟨n0, n1, n2⟩, z12, z13, z14, z15, z16, zo, zl, z11, zk, zon, e, rfl⟩ | ⟨sn, hsn, est, z12, z13, z14, z15, z16, zo, zl, z11, zss, zhs, zk, zon, e, rfl⟩
  · have n0 : nv 7 = 0 := n0
    have n1 : nv 1 = 0 := n1
    rw [n0] at m1
    obtain ⟨s1, s2⟩ := slot_0 m1 p0 p1
    simp only [sp_EM_number, slet, s2, if_neg (show ¬ (0 : Nat) = 1 by decide), Prod.mk.injEq] at g
    obtain ⟨g0, rfl, rfl, rfl, rfl, rfl, rfl, rfl⟩ := g
    refine ⟨?_, Or.inl rfl⟩
    show 0 = nw 7
    rw [← hg.1, n1]
  · obtain ⟨r9, a12, a13, a14, a15, a16, ao, al, a11, ass, ahs, ak, aon, b11, b31, b32, b29, b30, b33, hE, hM, hMB, hW, hMS, hHR, hFL⟩ := number_same (f14 := fv 9) (f15 := fv 10) (f16 := fv 11) m1 m3 f1 m5 (nv 1) (nv 2) (nv 33) (nw 7) (nw 8) p0 p1 p2
    rw [hE] at e
    rw [hM] at g
    simp only [Prod.mk.injEq] at e g
    obtain ⟨e0, rfl, rfl, rfl, rfl, rfl, rfl, rfl, rfl, rfl, rfl, rfl, rfl⟩ := e
    obtain ⟨g0, rfl, rfl, rfl, rfl, rfl, rfl, rfl⟩ := g
    show SGL (nv 6) (nv 7) zhs (nv 13) (nv 14) (iv 6) (iv 7) (qv 8) (fv 23) (fv 24) (fv 25) qs fz w29 (nw 25) (iw 6) (qw 7) (fw 11) (fw 12) (fw 13) (fw 7) (fw 14) (fw 15)
    rcases hFL with ⟨hhs, -, -, h29, -⟩ | ⟨hhs, -, -, h29, -⟩
    · rw [hhs, h29]; exact hg
    · exact ⟨hhs.trans h29.symm, Or.inl hhs⟩
theorem sg_urgent {Sx ux : CX} {Sm um : CMx} {p0 : Int32} {a1 : Nat} {r r' : Int32} (h : SRo Sx Sm) (fx : xFact Sx) (fm : mFact Sm) (hg : SG Sx Sm) (hx : xM_urgent Sx p0 a1 r ux) (hm : mM_urgent Sm p0 a1 r' um) (ha : a1 ≤ 1 := by decide) : SG ux um := by
  have f1 := m_bk fm
  obtain ⟨nv, iv, vv, fv, qv, fcv, qs, fz, ps, gz⟩ := Sx
  obtain ⟨nw, iw, fw, qw⟩ := Sm
  obtain ⟨e1, e2, hne, e3, e4, em⟩ := h
  have f1 : nw 0 ≤ 1 := f1
  have em : MB (nw 0) (nv 6) (nv 7) (nv 8) (iv 4) (fv 3) (qv 0) (qv 1) (fv 4) (qv 2) (qv 3) (fv 5) (fv 6) (fw 2) (qw 0) (qw 1) (qw 2) (qw 3) (fw 3) (qw 4) (qw 5) (fw 4) (bkN (nw 0) (nw 17) (nw 18)) (bkN (nw 0) (nw 19) (nw 20)) (bkN (nw 0) (nw 21) (nw 22)) (bkN (nw 0) (nw 23) (nw 24)) ∧ STQ (nv 7) (iv 4) (bkN (nw 0) (nw 23) (nw 24)) ∧ WFm (nv 6) (nv 7) (nv 8) (fv 3) (qv 2) (qv 3) (fv 5) (fv 6) (fv 7) (fv 8) ∧ MS (nv 6) (nv 7) (qv 2) (qv 3) (fv 5) (fv 6) (fv 9) (fv 10) (fv 11) ∧ HR (nw 0) (nv 7) (nv 8) (qv 2) (nv 12) (fv 21) (fv 22) (nw 9) (qw 6) (fw 6) := em
  obtain ⟨m1, m2, m3, m4, m5⟩ := em
  have hc3 : nv 6 ≤ 3 := m1.1.2.1
  have np8 : nv 7 ≤ 8 := m1.1.2.2.2.1
  have e13 : bkN (nw 0) (nw 19) (nw 20) = nv 7 := m1.1.2.2.1
  have hg : SGL (nv 6) (nv 7) (nv 1) (nv 13) (nv 14) (iv 6) (iv 7) (qv 8) (fv 23) (fv 24) (fv 25) qs fz (nw 7) (nw 25) (iw 6) (qw 7) (fw 11) (fw 12) (fw 13) (fw 7) (fw 14) (fw 15) := hg
  have no : ∀ p : Int32, nv 7 = 0 → ¬ ((0 : Int32) ≤ p ∧ p < nI (nv 7)) := by
    intro p n0 z
    have z2 := z.2
    rw [n0, show (nI 0 : Int32) = 0 by rfl] at z2
    exact Int32.not_lt.mpr z.1 z2
  obtain ⟨w3, w31, w32, w0, w29, w30, w33, ⟨v9, hv9, rv9, g⟩, rfl⟩ := hm
  rcases hx with ⟨⟨n0, n1, n2⟩, ⟨v, hv, rv, e⟩, rfl⟩ | ⟨sn, hsn, est, zo, zl, z4, zss, zhs, zk, zon, ⟨v, hv, rv, e⟩, rfl⟩
  · have n0 : nv 7 = 0 := n0
    have n1 : nv 1 = 0 := n1
    have hp : ¬ ((0 : Int32) ≤ p0 ∧ p0 < nI (bkN (nw 0) (nw 19) (nw 20))) := by
      rw [e13]; exact no p0 n0
    simp only [sp_EM_urgent, slet, if_neg hp, Prod.mk.injEq] at g
    obtain ⟨g0, rfl, rfl, rfl, rfl, rfl, rfl, rfl⟩ := g
    refine ⟨?_, Or.inl rfl⟩
    show 0 = nw 7
    rw [← hg.1, n1]
  · obtain ⟨r9, ao, al, a4, ass, ahs, ak, aon, b3, b31, b32, b29, b30, b33, hE, hM, hMB, hW, hHR, hFL⟩ := urgent_same m1 m3 m5 (nv 1) (nv 2) (nv 33) (nw 7) (nw 8) p0 ha
    rw [hE] at e
    rw [hM] at g
    simp only [Prod.mk.injEq] at e g
    obtain ⟨e0, rfl, rfl, rfl, rfl, rfl, rfl, rfl⟩ := e
    obtain ⟨g0, rfl, rfl, rfl, rfl, rfl, rfl, rfl⟩ := g
    show SGL (nv 6) (nv 7) zhs (nv 13) (nv 14) (iv 6) (iv 7) (qv 8) (fv 23) (fv 24) (fv 25) qs fz w29 (nw 25) (iw 6) (qw 7) (fw 11) (fw 12) (fw 13) (fw 7) (fw 14) (fw 15)
    rcases hFL with ⟨hhs, -, -, h29, -⟩ | ⟨hhs, -, -, h29, -⟩
    · rw [hhs, h29]; exact hg
    · exact ⟨hhs.trans h29.symm, Or.inl hhs⟩
theorem sg_undo {Sx ux : CX} {Sm um : CMx} {r r' : Int32} (h : SRo Sx Sm) (fx : xFact Sx) (fm : mFact Sm) (hg : SG Sx Sm) (hx : xM_undo Sx r ux) (hm : mM_undo Sm r' um) : SG ux um := by
  have f1 := m_bk fm
  obtain ⟨nv, iv, vv, fv, qv, fcv, qs, fz, ps, gz⟩ := Sx
  obtain ⟨nw, iw, fw, qw⟩ := Sm
  obtain ⟨e1, e2, hne, e3, e4, em⟩ := h
  have f1 : nw 0 ≤ 1 := f1
  have em : MB (nw 0) (nv 6) (nv 7) (nv 8) (iv 4) (fv 3) (qv 0) (qv 1) (fv 4) (qv 2) (qv 3) (fv 5) (fv 6) (fw 2) (qw 0) (qw 1) (qw 2) (qw 3) (fw 3) (qw 4) (qw 5) (fw 4) (bkN (nw 0) (nw 17) (nw 18)) (bkN (nw 0) (nw 19) (nw 20)) (bkN (nw 0) (nw 21) (nw 22)) (bkN (nw 0) (nw 23) (nw 24)) ∧ STQ (nv 7) (iv 4) (bkN (nw 0) (nw 23) (nw 24)) ∧ WFm (nv 6) (nv 7) (nv 8) (fv 3) (qv 2) (qv 3) (fv 5) (fv 6) (fv 7) (fv 8) ∧ MS (nv 6) (nv 7) (qv 2) (qv 3) (fv 5) (fv 6) (fv 9) (fv 10) (fv 11) ∧ HR (nw 0) (nv 7) (nv 8) (qv 2) (nv 12) (fv 21) (fv 22) (nw 9) (qw 6) (fw 6) := em
  obtain ⟨m1, m2, m3, m4, m5⟩ := em
  have hc3 : nv 6 ≤ 3 := m1.1.2.1
  have np8 : nv 7 ≤ 8 := m1.1.2.2.2.1
  have e13 : bkN (nw 0) (nw 19) (nw 20) = nv 7 := m1.1.2.2.1
  have hg : SGL (nv 6) (nv 7) (nv 1) (nv 13) (nv 14) (iv 6) (iv 7) (qv 8) (fv 23) (fv 24) (fv 25) qs fz (nw 7) (nw 25) (iw 6) (qw 7) (fw 11) (fw 12) (fw 13) (fw 7) (fw 14) (fw 15) := hg
  have no : ∀ p : Int32, nv 7 = 0 → ¬ ((0 : Int32) ≤ p ∧ p < nI (nv 7)) := by
    intro p n0 z
    have z2 := z.2
    rw [n0, show (nI 0 : Int32) = 0 by rfl] at z2
    exact Int32.not_lt.mpr z.1 z2
  obtain ⟨w11, w3, w0, w29, w30, w33, ⟨v9, hv9, rv9, g⟩, rfl⟩ := hm
  rcases hx with ⟨⟨n0, n1, n2⟩, z12, z13, z14, z15, z16, z4, z11, zk, zon, ⟨v, hv, rv, e⟩, rfl⟩ | ⟨sn, hsn, est, z12, z13, z14, z15, z16, z4, z11, zss, zhs, zk, zon, ⟨v, hv, rv, e⟩, rfl⟩
  · have n0 : nv 7 = 0 := n0
    have n1 : nv 1 = 0 := n1
    rw [n0] at m1 m5
    have k0 : nv 12 = 0 := hk_0 m1 m5
    have k9 : nw 9 = 0 := m5.1.trans k0
    simp only [sp_EM_undo, slet, if_pos k9, Prod.mk.injEq] at g
    obtain ⟨g0, rfl, rfl, rfl, rfl, rfl, rfl⟩ := g
    refine ⟨?_, Or.inl rfl⟩
    show 0 = nw 7
    rw [← hg.1, n1]
  · obtain ⟨r9, a12, a13, a14, a15, a16, a4, a11, ass, ahs, ak, aon, b11, b3, b29, b30, b33, hE, hM, hMB, hW, hMS, hHR, hFL⟩ := undo_same (f14 := fv 9) (f15 := fv 10) (f16 := fv 11) m1 m3 f1 m5 (nv 1) (nv 2) (nv 33) (nw 7) (nw 8)
    rw [hE] at e
    rw [hM] at g
    simp only [Prod.mk.injEq] at e g
    obtain ⟨e0, rfl, rfl, rfl, rfl, rfl, rfl, rfl, rfl, rfl, rfl, rfl⟩ := e
    obtain ⟨g0, rfl, rfl, rfl, rfl, rfl, rfl⟩ := g
    show SGL (nv 6) (nv 7) zhs (nv 13) (nv 14) (iv 6) (iv 7) (qv 8) (fv 23) (fv 24) (fv 25) qs fz w29 (nw 25) (iw 6) (qw 7) (fw 11) (fw 12) (fw 13) (fw 7) (fw 14) (fw 15)
    rcases hFL with ⟨hhs, -, -, h29, -⟩ | ⟨hhs, -, -, h29, -⟩
    · rw [hhs, h29]; exact hg
    · exact ⟨hhs.trans h29.symm, Or.inl hhs⟩
abbrev KXP := (Nat) × (Nat) × (Nat) × (Nat → Int32)
def kXP : CX → KXP := fun (nv, iv, vv, fv, qv, fcv, qs, fz, ps, gz) => ((nv 1), (nv 7), (nv 13), (fv 23))
theorem kxP_feed {S u : CX} {p0 : Int32} {p1 : Int32} {p2 : Int32} {p3 : Int32} {p4 : Int32} {r : Int32} (h : xM_feed S p0 p1 p2 p3 p4 r u) : kXP u = kXP S := by
  obtain ⟨nv, iv, vv, fv, qv, fcv, qs, fz, ps, gz⟩ := S
  rcases h with ⟨_, _, -, rfl⟩
  exact pe_ rfl (pe_ rfl (pe_ rfl (rfl)))
theorem kxP_end {S u : CX} {p0 : Int32} {r : Int32} (h : xM_end S p0 r u) : kXP u = kXP S := by
  obtain ⟨nv, iv, vv, fv, qv, fcv, qs, fz, ps, gz⟩ := S
  rcases h with ⟨_, -, rfl⟩
  exact pe_ rfl (pe_ rfl (pe_ rfl (rfl)))
theorem kxP_fault {S u : CX} {p0 : Int32} {r : Int32} (h : xM_fault S p0 r u) : kXP u = kXP S := by
  obtain ⟨nv, iv, vv, fv, qv, fcv, qs, fz, ps, gz⟩ := S
  rcases h with ⟨-, rfl⟩
  exact pe_ rfl (pe_ rfl (pe_ rfl (rfl)))
theorem kxP_about {S u : CX} {p0 : Int32} {r : Int32} (h : xM_about S p0 r u) : kXP u = kXP S := by
  obtain ⟨nv, iv, vv, fv, qv, fcv, qs, fz, ps, gz⟩ := S
  rcases h with ⟨-, rfl⟩
  exact pe_ rfl (pe_ rfl (pe_ rfl (rfl)))
theorem kxP_place {S u : CX} {p0 : Int32} {p1 : Int32} {r : Int32} (h : xM_place S p0 p1 r u) : kXP u = kXP S := by
  obtain ⟨nv, iv, vv, fv, qv, fcv, qs, fz, ps, gz⟩ := S
  rcases h with ⟨-, rfl⟩
  exact pe_ rfl (pe_ rfl (pe_ rfl (rfl)))
theorem kxP_edge {S u : CX} {p0 : Int32} {p1 : Int32} {r : Int32} (h : xM_edge S p0 p1 r u) : kXP u = kXP S := by
  obtain ⟨nv, iv, vv, fv, qv, fcv, qs, fz, ps, gz⟩ := S
  rcases h with ⟨-, rfl⟩
  exact pe_ rfl (pe_ rfl (pe_ rfl (rfl)))
theorem kxP_condition {S u : CX} {p0 : Int32} {p1 : Int32} {p2 : Int32} {r : Int32} (h : xM_condition S p0 p1 p2 r u) : kXP u = kXP S := by
  obtain ⟨nv, iv, vv, fv, qv, fcv, qs, fz, ps, gz⟩ := S
  rcases h with ⟨-, rfl⟩
  exact pe_ rfl (pe_ rfl (pe_ rfl (rfl)))
theorem kxP_limit {S u : CX} {p0 : Int32} {p1 : Int32} {r : Int32} (h : xM_limit S p0 p1 r u) : kXP u = kXP S := by
  obtain ⟨nv, iv, vv, fv, qv, fcv, qs, fz, ps, gz⟩ := S
  rcases h with ⟨-, rfl⟩
  exact pe_ rfl (pe_ rfl (pe_ rfl (rfl)))
theorem kxP_rings {S u : CX} {r : Int32} (h : xM_rings S r u) : kXP u = kXP S := by
  obtain ⟨nv, iv, vv, fv, qv, fcv, qs, fz, ps, gz⟩ := S
  rcases h with ⟨-, rfl⟩
  exact pe_ rfl (pe_ rfl (pe_ rfl (rfl)))
theorem kxP_begin {S u : CX} {r : Int32} (h : xM_begin S r u) : kXP u = kXP S := by
  obtain ⟨nv, iv, vv, fv, qv, fcv, qs, fz, ps, gz⟩ := S
  rcases h with ⟨⟨e1, e2, e3⟩, _, -, rfl⟩ | ⟨sn, -, e4, _, _, _, _, -, rfl⟩
  · exact pe_ e2.symm (pe_ e1.symm (pe_ rfl (rfl)))
  · exact pe_ rfl (pe_ rfl (pe_ rfl (rfl)))
theorem kxP_waits {S u : CX} {p0 : Int32} {r : Int32} (h : xM_waits S p0 r u) : kXP u = kXP S := by
  obtain ⟨nv, iv, vv, fv, qv, fcv, qs, fz, ps, gz⟩ := S
  rcases h with ⟨_, _, -, rfl⟩
  exact pe_ rfl (pe_ rfl (pe_ rfl (rfl)))
theorem kxP_takes {S u : CX} {p0 : Int32} {r : Int32} (h : xM_takes S p0 r u) : kXP u = kXP S := by
  obtain ⟨nv, iv, vv, fv, qv, fcv, qs, fz, ps, gz⟩ := S
  rcases h with ⟨_, _, _, -, rfl⟩
  exact pe_ rfl (pe_ rfl (pe_ rfl (rfl)))
theorem kxP_now {S u : CX} {p0 : Int32} {r : Int32} (h : xM_now S p0 r u) : kXP u = kXP S := by
  obtain ⟨nv, iv, vv, fv, qv, fcv, qs, fz, ps, gz⟩ := S
  rcases h with ⟨_, -, rfl⟩
  exact pe_ rfl (pe_ rfl (pe_ rfl (rfl)))
theorem kxP_first {S u : CX} {p0 : Int32} {r : Int32} (h : xM_first S p0 r u) : kXP u = kXP S := by
  obtain ⟨nv, iv, vv, fv, qv, fcv, qs, fz, ps, gz⟩ := S
  rcases h with ⟨-, rfl⟩
  exact pe_ rfl (pe_ rfl (pe_ rfl (rfl)))
theorem kxP_reached {S u : CX} {r : Int32} (h : xM_reached S r u) : kXP u = kXP S := by
  obtain ⟨nv, iv, vv, fv, qv, fcv, qs, fz, ps, gz⟩ := S
  rcases h with ⟨-, rfl⟩
  exact pe_ rfl (pe_ rfl (pe_ rfl (rfl)))
theorem kxP_taken {S u : CX} {r : Int32} (h : xM_taken S r u) : kXP u = kXP S := by
  obtain ⟨nv, iv, vv, fv, qv, fcv, qs, fz, ps, gz⟩ := S
  rcases h with ⟨-, rfl⟩
  exact pe_ rfl (pe_ rfl (pe_ rfl (rfl)))
theorem kxP_avoids {S u : CX} {p0 : Int32} {p1 : Int32} {r : Int32} (h : xM_avoids S p0 p1 r u) : kXP u = kXP S := by
  obtain ⟨nv, iv, vv, fv, qv, fcv, qs, fz, ps, gz⟩ := S
  rcases h with ⟨⟨e1, e2, e3⟩, -, rfl⟩ | ⟨sn, -, e4, _, _, _, _, _, _, _, _, _, _, _, _, _, _, _, _, _, _, _, -, rfl⟩
  · exact pe_ e2.symm (pe_ e1.symm (pe_ rfl (rfl)))
  · exact pe_ rfl (pe_ rfl (pe_ rfl (rfl)))
theorem kxP_from {S u : CX} {p0 : Int32} {p1 : Int32} {p2 : Int32} {p3 : Int32} {p4 : Int32} {r : Int32} (h : xM_from S p0 p1 p2 p3 p4 r u) : kXP u = kXP S := by
  obtain ⟨nv, iv, vv, fv, qv, fcv, qs, fz, ps, gz⟩ := S
  rcases h with ⟨⟨e1, e2, e3⟩, -, rfl⟩ | ⟨sn, -, e4, _, _, _, _, _, _, _, _, _, _, _, _, _, _, _, _, _, _, _, -, rfl⟩
  · exact pe_ e2.symm (pe_ e1.symm (pe_ rfl (rfl)))
  · exact pe_ rfl (pe_ rfl (pe_ rfl (rfl)))
theorem kxP_soonest {S u : CX} {p0 : Int32} {p1 : Int32} {r : Int32} (h : xM_soonest S p0 p1 r u) : kXP u = kXP S := by
  obtain ⟨nv, iv, vv, fv, qv, fcv, qs, fz, ps, gz⟩ := S
  rcases h with ⟨⟨e1, e2, e3⟩, -, rfl⟩ | ⟨sn, -, e4, _, _, _, _, _, _, _, _, _, _, _, _, _, _, _, _, _, _, _, _, -, rfl⟩
  · exact pe_ e2.symm (pe_ e1.symm (pe_ rfl (rfl)))
  · exact pe_ rfl (pe_ rfl (pe_ rfl (rfl)))
theorem kxP_lets {S u : CX} {p0 : Int32} {p1 : Int32} {p2 : Int32} {p3 : Int32} {r : Int32} (h : xM_lets S p0 p1 p2 p3 r u) : kXP u = kXP S := by
  obtain ⟨nv, iv, vv, fv, qv, fcv, qs, fz, ps, gz⟩ := S
  rcases h with ⟨⟨e1, e2, e3⟩, -, rfl⟩ | ⟨sn, -, e4, _, _, _, _, _, _, _, _, _, _, _, _, _, _, _, _, _, _, _, _, _, _, _, _, _, -, rfl⟩
  · exact pe_ e2.symm (pe_ e1.symm (pe_ rfl (rfl)))
  · exact pe_ rfl (pe_ rfl (pe_ rfl (rfl)))
theorem kxP_run {S u : CX} {p0 : Int32} {p1 : Int32} {r : Int32} (h : xM_run S p0 p1 r u) : kXP u = kXP S := by
  obtain ⟨nv, iv, vv, fv, qv, fcv, qs, fz, ps, gz⟩ := S
  rcases h with ⟨⟨e1, e2, e3⟩, -, rfl⟩ | ⟨sn, -, e4, _, _, -, rfl⟩
  · exact pe_ e2.symm (pe_ e1.symm (pe_ rfl (rfl)))
  · exact pe_ rfl (pe_ rfl (pe_ rfl (rfl)))
theorem kxP_when {S u : CX} {p0 : Int32} {p1 : Int32} {r : Int32} (h : xM_when S p0 p1 r u) : kXP u = kXP S := by
  obtain ⟨nv, iv, vv, fv, qv, fcv, qs, fz, ps, gz⟩ := S
  rcases h with ⟨⟨e1, e2, e3⟩, -, rfl⟩ | ⟨sn, -, e4, _, _, _, _, _, _, _, _, -, rfl⟩
  · exact pe_ e2.symm (pe_ e1.symm (pe_ rfl (rfl)))
  · exact pe_ rfl (pe_ rfl (pe_ rfl (rfl)))
theorem kxP_then {S u : CX} {p0 : Int32} {p1 : Int32} {p2 : Int32} {r : Int32} (h : xM_then S p0 p1 p2 r u) : kXP u = kXP S := by
  obtain ⟨nv, iv, vv, fv, qv, fcv, qs, fz, ps, gz⟩ := S
  rcases h with ⟨⟨e1, e2, e3⟩, -, rfl⟩ | ⟨sn, -, e4, _, _, _, _, _, _, _, _, -, rfl⟩
  · exact pe_ e2.symm (pe_ e1.symm (pe_ rfl (rfl)))
  · exact pe_ rfl (pe_ rfl (pe_ rfl (rfl)))
theorem kxP_latest {S u : CX} {p0 : Int32} {p1 : Int32} {p2 : Int32} {r : Int32} (h : xM_latest S p0 p1 p2 r u) : kXP u = kXP S := by
  obtain ⟨nv, iv, vv, fv, qv, fcv, qs, fz, ps, gz⟩ := S
  rcases h with ⟨⟨e1, e2, e3⟩, -, rfl⟩ | ⟨sn, -, e4, _, _, _, _, _, _, _, _, -, rfl⟩
  · exact pe_ e2.symm (pe_ e1.symm (pe_ rfl (rfl)))
  · exact pe_ rfl (pe_ rfl (pe_ rfl (rfl)))
theorem kxP_spans {S u : CX} {p0 : Int32} {p1 : Int32} {r : Int32} (h : xM_spans S p0 p1 r u) : kXP u = kXP S := by
  obtain ⟨nv, iv, vv, fv, qv, fcv, qs, fz, ps, gz⟩ := S
  rcases h with ⟨⟨e1, e2, e3⟩, -, rfl⟩ | ⟨sn, -, e4, _, _, _, _, -, rfl⟩
  · exact pe_ e2.symm (pe_ e1.symm (pe_ rfl (rfl)))
  · exact pe_ rfl (pe_ rfl (pe_ rfl (rfl)))
theorem kxP_tells {S u : CX} {p0 : Int32} {p1 : Int32} {p2 : Int32} {p3 : Int32} {p4 : Int32} {p5 : Int32} {r : Int32} (h : xM_tells S p0 p1 p2 p3 p4 p5 r u) : kXP u = kXP S := by
  obtain ⟨nv, iv, vv, fv, qv, fcv, qs, fz, ps, gz⟩ := S
  rcases h with ⟨⟨e1, e2, e3⟩, -, rfl⟩ | ⟨sn, -, e4, _, _, _, _, -, rfl⟩
  · exact pe_ e2.symm (pe_ e1.symm (pe_ rfl (rfl)))
  · exact pe_ rfl (pe_ rfl (pe_ rfl (rfl)))
theorem kxP_replays {S u : CX} {p0 : Int32} {r : Int32} (h : xM_replays S p0 r u) : kXP u = kXP S := by
  obtain ⟨nv, iv, vv, fv, qv, fcv, qs, fz, ps, gz⟩ := S
  rcases h with ⟨⟨e1, e2, e3⟩, _, -, rfl⟩ | ⟨sn, -, e4, _, _, _, _, _, _, _, _, _, _, _, _, _, -, rfl⟩
  · exact pe_ e2.symm (pe_ e1.symm (pe_ rfl (rfl)))
  · exact pe_ rfl (pe_ rfl (pe_ rfl (rfl)))
theorem kxP_within {S u : CX} {p0 : Int32} {p1 : Int32} {r : Int32} (h : xM_within S p0 p1 r u) : kXP u = kXP S := by
  obtain ⟨nv, iv, vv, fv, qv, fcv, qs, fz, ps, gz⟩ := S
  rcases h with ⟨-, rfl⟩
  exact pe_ rfl (pe_ rfl (pe_ rfl (rfl)))
theorem kxP_bound {S u : CX} {p0 : Int32} {p1 : Int32} {p2 : Int32} {p3 : Int32} {r : Int32} (h : xM_bound S p0 p1 p2 p3 r u) : kXP u = kXP S := by
  obtain ⟨nv, iv, vv, fv, qv, fcv, qs, fz, ps, gz⟩ := S
  rcases h with ⟨-, rfl⟩
  exact pe_ rfl (pe_ rfl (pe_ rfl (rfl)))
theorem kxP_has {S u : CX} {p0 : Int32} {p1 : Int32} {p2 : Int32} {p3 : Int32} {r : Int32} (h : xM_has S p0 p1 p2 p3 r u) : kXP u = kXP S := by
  obtain ⟨nv, iv, vv, fv, qv, fcv, qs, fz, ps, gz⟩ := S
  rcases h with ⟨_, -, rfl⟩
  exact pe_ rfl (pe_ rfl (pe_ rfl (rfl)))
theorem kxP_state {S u : CX} {p0 : Int32} {p1 : Int32} {r : Int32} (h : xM_state S p0 p1 r u) : kXP u = kXP S := by
  obtain ⟨nv, iv, vv, fv, qv, fcv, qs, fz, ps, gz⟩ := S
  rcases h with ⟨_, _, _, _, _, _, _, -, rfl⟩
  exact pe_ rfl (pe_ rfl (pe_ rfl (rfl)))
theorem kxP_covered {S u : CX} {p0 : Int32} {r : Int32} (h : xM_covered S p0 r u) : kXP u = kXP S := by
  obtain ⟨nv, iv, vv, fv, qv, fcv, qs, fz, ps, gz⟩ := S
  rcases h with ⟨_, _, _, _, _, _, _, -, rfl⟩
  exact pe_ rfl (pe_ rfl (pe_ rfl (rfl)))
theorem kxP_overlap {S u : CX} {p0 : Int32} {p1 : Int32} {r : Int32} (h : xM_overlap S p0 p1 r u) : kXP u = kXP S := by
  obtain ⟨nv, iv, vv, fv, qv, fcv, qs, fz, ps, gz⟩ := S
  rcases h with ⟨_, _, -, rfl⟩
  exact pe_ rfl (pe_ rfl (pe_ rfl (rfl)))
theorem kxP_points {S u : CX} {p0 : Int32} {r : Int32} (h : xM_points S p0 r u) : kXP u = kXP S := by
  obtain ⟨nv, iv, vv, fv, qv, fcv, qs, fz, ps, gz⟩ := S
  rcases h with ⟨_, -, rfl⟩
  exact pe_ rfl (pe_ rfl (pe_ rfl (rfl)))
def SPp : KXP → Prop := fun (hs, np, gc, s2) => hs = 0 ∨ (PAR gc s2 ∧ gc ≤ 120)
def SP (S : CX) : Prop := SPp (kXP S)
theorem sp_of {S u : CX} (h1 : kXP u = kXP S) (h : SP S) : SP u := by
  unfold SP
  rw [h1]; exact h
theorem sp_0 : SP x0S := Or.inl rfl
theorem sp_graph {Sx ux : CX} {Sm um : CMx} {p0 : Int32} {a1 : Nat} {r r' : Int32} (h : SRo Sx Sm) (fx : xFact Sx) (fm : mFact Sm) (hp : SP Sx) (hx : xM_graph Sx p0 a1 r ux) (hm : mM_graph Sm p0 a1 r' um) : SP ux := by
  have f1 := m_bk fm
  obtain ⟨nv, iv, vv, fv, qv, fcv, qs, fz, ps, gz⟩ := Sx
  obtain ⟨nw, iw, fw, qw⟩ := Sm
  obtain ⟨e1, e2, hne, e3, e4, em⟩ := h
  have f1 : nw 0 ≤ 1 := f1
  have em : MB (nw 0) (nv 6) (nv 7) (nv 8) (iv 4) (fv 3) (qv 0) (qv 1) (fv 4) (qv 2) (qv 3) (fv 5) (fv 6) (fw 2) (qw 0) (qw 1) (qw 2) (qw 3) (fw 3) (qw 4) (qw 5) (fw 4) (bkN (nw 0) (nw 17) (nw 18)) (bkN (nw 0) (nw 19) (nw 20)) (bkN (nw 0) (nw 21) (nw 22)) (bkN (nw 0) (nw 23) (nw 24)) ∧ STQ (nv 7) (iv 4) (bkN (nw 0) (nw 23) (nw 24)) ∧ WFm (nv 6) (nv 7) (nv 8) (fv 3) (qv 2) (qv 3) (fv 5) (fv 6) (fv 7) (fv 8) ∧ MS (nv 6) (nv 7) (qv 2) (qv 3) (fv 5) (fv 6) (fv 9) (fv 10) (fv 11) ∧ HR (nw 0) (nv 7) (nv 8) (qv 2) (nv 12) (fv 21) (fv 22) (nw 9) (qw 6) (fw 6) := em
  obtain ⟨m1, m2, m3, m4, m5⟩ := em
  have hc3 : nv 6 ≤ 3 := m1.1.2.1
  have np8 : nv 7 ≤ 8 := m1.1.2.2.2.1
  have e13 : bkN (nw 0) (nw 19) (nw 20) = nv 7 := m1.1.2.2.1
  have hp : SPp (nv 1, nv 7, nv 13, fv 23) := hp
  have no : ∀ p : Int32, nv 7 = 0 → ¬ ((0 : Int32) ≤ p ∧ p < nI (nv 7)) := by
    intro p n0 z
    have z2 := z.2
    rw [n0, show (nI 0 : Int32) = 0 by rfl] at z2
    exact Int32.not_lt.mpr z.1 z2
  rcases hx with ⟨⟨n0, n1, n2⟩, e, rfl⟩ | ⟨sn, hsn, est, z1, z2, z3, z4, z5, zhi, zlo, zfb, zhs, zav, zgo, zfo, zl, zsz, zc, zfu, zx, zwa, zfz, zqs, e, rfl⟩
  · exact Or.inl rfl
  · have q : PS21 (r, z1, z2, z3, z4, z5, zhi, zlo, zfb, zhs, zav, zgo, zfo, zl, zsz, zc, zfu, zx, zwa, zfz, zqs) := by
      rw [e]; exact par_graph hp
    exact q
theorem sp_automaton {Sx ux : CX} {Sm um : CMx} {r r' : Int32} (h : SRo Sx Sm) (fx : xFact Sx) (fm : mFact Sm) (hp : SP Sx) (hx : xM_automaton Sx r ux) (hm : mM_automaton Sm r' um) : SP ux := by
  have f1 := m_bk fm
  have tp := x_tp fx
  obtain ⟨nv, iv, vv, fv, qv, fcv, qs, fz, ps, gz⟩ := Sx
  obtain ⟨nw, iw, fw, qw⟩ := Sm
  obtain ⟨vw, z0, z1, z2, z3, z4, z5, z6, z7, z8, z9, z10, z11, z12, z13, z14, z15, z16, z17, z18, z19, z20, z21, z22, z23, z24, z25, z26, z27, z28, z29, e, hx⟩ := hx
  obtain ⟨y0, y1, y2, y3, y4, y5, y6, y7, y8, y9, y10, y11, y12, y13, y14, y15, y16, y17, y18, y19, y20, y21, y22, y23, y24, y25, y26, y27, y28, y29, y30, y31, y32, y33, g, rfl⟩ := hm
  obtain ⟨e1, e2, hne, e3, e4, em⟩ := h
  have f1 : nw 0 ≤ 1 := f1
  have tp : nv 0 ≤ 900 := tp
  have e1 : nv 0 = nw 1 := e1
  have e2 : fv 0 = fw 5 := e2
  have hne : ∀ i, fv 0 i ≠ -1 := hne
  have hp : SPp (nv 1, nv 7, nv 13, fv 23) := hp
  have er := congrArg Prod.fst e
  rw [← e1, ← e2] at g
  rcases (show nw 0 = 0 ∨ nw 0 = 1 by omega) with w0 | w0
  · rw [w0] at g
    rcases au_x0 hne tp e g with ⟨hr1, ⟨-, k1, -⟩, ⟨k2, -⟩, -⟩ | ⟨hr1, ⟨-, k1, -⟩, ⟨k2, -⟩, -⟩
    · rcases hx with ⟨n1, -⟩ | ⟨-, rfl⟩
      · exact absurd (er.symm.trans hr1) n1
      · show SPp (z16, nv 7, nv 13, fv 23)
        rw [k1]; exact hp
    · rcases hx with ⟨-, rfl⟩ | ⟨n1, -⟩
      · exact Or.inl k1
      · exact absurd (er.trans n1) hr1
  · rw [w0] at g
    rcases au_x1 hne tp e g with ⟨hr1, ⟨-, k1, -⟩, ⟨k2, -⟩, -⟩ | ⟨hr1, ⟨-, k1, -⟩, ⟨k2, -⟩, -⟩
    · rcases hx with ⟨n1, -⟩ | ⟨-, rfl⟩
      · exact absurd (er.symm.trans hr1) n1
      · show SPp (z16, nv 7, nv 13, fv 23)
        rw [k1]; exact hp
    · rcases hx with ⟨-, rfl⟩ | ⟨n1, -⟩
      · exact Or.inl k1
      · exact absurd (er.trans n1) hr1
theorem sp_number {Sx ux : CX} {Sm um : CMx} {p0 : Int32} {p1 : Int32} {p2 : Int32} {r r' : Int32} (h : SRo Sx Sm) (fx : xFact Sx) (fm : mFact Sm) (hp : SP Sx) (hx : xM_number Sx p0 p1 p2 r ux) (hm : mM_number Sm p0 p1 p2 r' um) : SP ux := by
  have f1 := m_bk fm
  obtain ⟨nv, iv, vv, fv, qv, fcv, qs, fz, ps, gz⟩ := Sx
  obtain ⟨nw, iw, fw, qw⟩ := Sm
  obtain ⟨e1, e2, hne, e3, e4, em⟩ := h
  have f1 : nw 0 ≤ 1 := f1
  have em : MB (nw 0) (nv 6) (nv 7) (nv 8) (iv 4) (fv 3) (qv 0) (qv 1) (fv 4) (qv 2) (qv 3) (fv 5) (fv 6) (fw 2) (qw 0) (qw 1) (qw 2) (qw 3) (fw 3) (qw 4) (qw 5) (fw 4) (bkN (nw 0) (nw 17) (nw 18)) (bkN (nw 0) (nw 19) (nw 20)) (bkN (nw 0) (nw 21) (nw 22)) (bkN (nw 0) (nw 23) (nw 24)) ∧ STQ (nv 7) (iv 4) (bkN (nw 0) (nw 23) (nw 24)) ∧ WFm (nv 6) (nv 7) (nv 8) (fv 3) (qv 2) (qv 3) (fv 5) (fv 6) (fv 7) (fv 8) ∧ MS (nv 6) (nv 7) (qv 2) (qv 3) (fv 5) (fv 6) (fv 9) (fv 10) (fv 11) ∧ HR (nw 0) (nv 7) (nv 8) (qv 2) (nv 12) (fv 21) (fv 22) (nw 9) (qw 6) (fw 6) := em
  obtain ⟨m1, m2, m3, m4, m5⟩ := em
  have hc3 : nv 6 ≤ 3 := m1.1.2.1
  have np8 : nv 7 ≤ 8 := m1.1.2.2.2.1
  have e13 : bkN (nw 0) (nw 19) (nw 20) = nv 7 := m1.1.2.2.1
  have hp : SPp (nv 1, nv 7, nv 13, fv 23) := hp
  have no : ∀ p : Int32, nv 7 = 0 → ¬ ((0 : Int32) ≤ p ∧ p < nI (nv 7)) := by
    intro p n0 z
    have z2 := z.2
    rw [n0, show (nI 0 : Int32) = 0 by rfl] at z2
    exact Int32.not_lt.mpr z.1 z2
  obtain ⟨w11, w31, w32, w0, w29, w30, w33, g, rfl⟩ := hm
  rcases hx with ⟨⟨n0, n1, n2⟩, z12, z13, z14, z15, z16, zo, zl, z11, zk, zon, e, rfl⟩ | ⟨sn, hsn, est, z12, z13, z14, z15, z16, zo, zl, z11, zss, zhs, zk, zon, e, rfl⟩
  · have n0 : nv 7 = 0 := n0
    have n1 : nv 1 = 0 := n1
    rw [n0] at m1
    obtain ⟨s1, s2⟩ := slot_0 m1 p0 p1
    simp only [sp_EM_number, slet, s2, if_neg (show ¬ (0 : Nat) = 1 by decide), Prod.mk.injEq] at g
    obtain ⟨g0, rfl, rfl, rfl, rfl, rfl, rfl, rfl⟩ := g
    exact Or.inl rfl
  · obtain ⟨r9, a12, a13, a14, a15, a16, ao, al, a11, ass, ahs, ak, aon, b11, b31, b32, b29, b30, b33, hE, hM, hMB, hW, hMS, hHR, hFL⟩ := number_same (f14 := fv 9) (f15 := fv 10) (f16 := fv 11) m1 m3 f1 m5 (nv 1) (nv 2) (nv 33) (nw 7) (nw 8) p0 p1 p2
    rw [hE] at e
    rw [hM] at g
    simp only [Prod.mk.injEq] at e g
    obtain ⟨e0, rfl, rfl, rfl, rfl, rfl, rfl, rfl, rfl, rfl, rfl, rfl, rfl⟩ := e
    obtain ⟨g0, rfl, rfl, rfl, rfl, rfl, rfl, rfl⟩ := g
    show SPp (zhs, nv 7, nv 13, fv 23)
    rcases hFL with ⟨hhs, -, -, -, -⟩ | ⟨hhs, -, -, -, -⟩
    · rw [hhs]; exact hp
    · exact Or.inl hhs
theorem sp_urgent {Sx ux : CX} {Sm um : CMx} {p0 : Int32} {a1 : Nat} {r r' : Int32} (h : SRo Sx Sm) (fx : xFact Sx) (fm : mFact Sm) (hp : SP Sx) (hx : xM_urgent Sx p0 a1 r ux) (hm : mM_urgent Sm p0 a1 r' um) (ha : a1 ≤ 1 := by decide) : SP ux := by
  have f1 := m_bk fm
  obtain ⟨nv, iv, vv, fv, qv, fcv, qs, fz, ps, gz⟩ := Sx
  obtain ⟨nw, iw, fw, qw⟩ := Sm
  obtain ⟨e1, e2, hne, e3, e4, em⟩ := h
  have f1 : nw 0 ≤ 1 := f1
  have em : MB (nw 0) (nv 6) (nv 7) (nv 8) (iv 4) (fv 3) (qv 0) (qv 1) (fv 4) (qv 2) (qv 3) (fv 5) (fv 6) (fw 2) (qw 0) (qw 1) (qw 2) (qw 3) (fw 3) (qw 4) (qw 5) (fw 4) (bkN (nw 0) (nw 17) (nw 18)) (bkN (nw 0) (nw 19) (nw 20)) (bkN (nw 0) (nw 21) (nw 22)) (bkN (nw 0) (nw 23) (nw 24)) ∧ STQ (nv 7) (iv 4) (bkN (nw 0) (nw 23) (nw 24)) ∧ WFm (nv 6) (nv 7) (nv 8) (fv 3) (qv 2) (qv 3) (fv 5) (fv 6) (fv 7) (fv 8) ∧ MS (nv 6) (nv 7) (qv 2) (qv 3) (fv 5) (fv 6) (fv 9) (fv 10) (fv 11) ∧ HR (nw 0) (nv 7) (nv 8) (qv 2) (nv 12) (fv 21) (fv 22) (nw 9) (qw 6) (fw 6) := em
  obtain ⟨m1, m2, m3, m4, m5⟩ := em
  have hc3 : nv 6 ≤ 3 := m1.1.2.1
  have np8 : nv 7 ≤ 8 := m1.1.2.2.2.1
  have e13 : bkN (nw 0) (nw 19) (nw 20) = nv 7 := m1.1.2.2.1
  have hp : SPp (nv 1, nv 7, nv 13, fv 23) := hp
  have no : ∀ p : Int32, nv 7 = 0 → ¬ ((0 : Int32) ≤ p ∧ p < nI (nv 7)) := by
    intro p n0 z
    have z2 := z.2
    rw [n0, show (nI 0 : Int32) = 0 by rfl] at z2
    exact Int32.not_lt.mpr z.1 z2
  obtain ⟨w3, w31, w32, w0, w29, w30, w33, ⟨v9, hv9, rv9, g⟩, rfl⟩ := hm
  rcases hx with ⟨⟨n0, n1, n2⟩, ⟨v, hv, rv, e⟩, rfl⟩ | ⟨sn, hsn, est, zo, zl, z4, zss, zhs, zk, zon, ⟨v, hv, rv, e⟩, rfl⟩
  · have n0 : nv 7 = 0 := n0
    have n1 : nv 1 = 0 := n1
    have hp : ¬ ((0 : Int32) ≤ p0 ∧ p0 < nI (bkN (nw 0) (nw 19) (nw 20))) := by
      rw [e13]; exact no p0 n0
    simp only [sp_EM_urgent, slet, if_neg hp, Prod.mk.injEq] at g
    obtain ⟨g0, rfl, rfl, rfl, rfl, rfl, rfl, rfl⟩ := g
    exact Or.inl rfl
  · obtain ⟨r9, ao, al, a4, ass, ahs, ak, aon, b3, b31, b32, b29, b30, b33, hE, hM, hMB, hW, hHR, hFL⟩ := urgent_same m1 m3 m5 (nv 1) (nv 2) (nv 33) (nw 7) (nw 8) p0 ha
    rw [hE] at e
    rw [hM] at g
    simp only [Prod.mk.injEq] at e g
    obtain ⟨e0, rfl, rfl, rfl, rfl, rfl, rfl, rfl⟩ := e
    obtain ⟨g0, rfl, rfl, rfl, rfl, rfl, rfl, rfl⟩ := g
    show SPp (zhs, nv 7, nv 13, fv 23)
    rcases hFL with ⟨hhs, -, -, -, -⟩ | ⟨hhs, -, -, -, -⟩
    · rw [hhs]; exact hp
    · exact Or.inl hhs
theorem sp_undo {Sx ux : CX} {Sm um : CMx} {r r' : Int32} (h : SRo Sx Sm) (fx : xFact Sx) (fm : mFact Sm) (hp : SP Sx) (hx : xM_undo Sx r ux) (hm : mM_undo Sm r' um) : SP ux := by
  have f1 := m_bk fm
  obtain ⟨nv, iv, vv, fv, qv, fcv, qs, fz, ps, gz⟩ := Sx
  obtain ⟨nw, iw, fw, qw⟩ := Sm
  obtain ⟨e1, e2, hne, e3, e4, em⟩ := h
  have f1 : nw 0 ≤ 1 := f1
  have em : MB (nw 0) (nv 6) (nv 7) (nv 8) (iv 4) (fv 3) (qv 0) (qv 1) (fv 4) (qv 2) (qv 3) (fv 5) (fv 6) (fw 2) (qw 0) (qw 1) (qw 2) (qw 3) (fw 3) (qw 4) (qw 5) (fw 4) (bkN (nw 0) (nw 17) (nw 18)) (bkN (nw 0) (nw 19) (nw 20)) (bkN (nw 0) (nw 21) (nw 22)) (bkN (nw 0) (nw 23) (nw 24)) ∧ STQ (nv 7) (iv 4) (bkN (nw 0) (nw 23) (nw 24)) ∧ WFm (nv 6) (nv 7) (nv 8) (fv 3) (qv 2) (qv 3) (fv 5) (fv 6) (fv 7) (fv 8) ∧ MS (nv 6) (nv 7) (qv 2) (qv 3) (fv 5) (fv 6) (fv 9) (fv 10) (fv 11) ∧ HR (nw 0) (nv 7) (nv 8) (qv 2) (nv 12) (fv 21) (fv 22) (nw 9) (qw 6) (fw 6) := em
  obtain ⟨m1, m2, m3, m4, m5⟩ := em
  have hc3 : nv 6 ≤ 3 := m1.1.2.1
  have np8 : nv 7 ≤ 8 := m1.1.2.2.2.1
  have e13 : bkN (nw 0) (nw 19) (nw 20) = nv 7 := m1.1.2.2.1
  have hp : SPp (nv 1, nv 7, nv 13, fv 23) := hp
  have no : ∀ p : Int32, nv 7 = 0 → ¬ ((0 : Int32) ≤ p ∧ p < nI (nv 7)) := by
    intro p n0 z
    have z2 := z.2
    rw [n0, show (nI 0 : Int32) = 0 by rfl] at z2
    exact Int32.not_lt.mpr z.1 z2
  obtain ⟨w11, w3, w0, w29, w30, w33, ⟨v9, hv9, rv9, g⟩, rfl⟩ := hm
  rcases hx with ⟨⟨n0, n1, n2⟩, z12, z13, z14, z15, z16, z4, z11, zk, zon, ⟨v, hv, rv, e⟩, rfl⟩ | ⟨sn, hsn, est, z12, z13, z14, z15, z16, z4, z11, zss, zhs, zk, zon, ⟨v, hv, rv, e⟩, rfl⟩
  · have n0 : nv 7 = 0 := n0
    have n1 : nv 1 = 0 := n1
    rw [n0] at m1 m5
    have k0 : nv 12 = 0 := hk_0 m1 m5
    have k9 : nw 9 = 0 := m5.1.trans k0
    simp only [sp_EM_undo, slet, if_pos k9, Prod.mk.injEq] at g
    obtain ⟨g0, rfl, rfl, rfl, rfl, rfl, rfl⟩ := g
    exact Or.inl rfl
  · obtain ⟨r9, a12, a13, a14, a15, a16, a4, a11, ass, ahs, ak, aon, b11, b3, b29, b30, b33, hE, hM, hMB, hW, hMS, hHR, hFL⟩ := undo_same (f14 := fv 9) (f15 := fv 10) (f16 := fv 11) m1 m3 f1 m5 (nv 1) (nv 2) (nv 33) (nw 7) (nw 8)
    rw [hE] at e
    rw [hM] at g
    simp only [Prod.mk.injEq] at e g
    obtain ⟨e0, rfl, rfl, rfl, rfl, rfl, rfl, rfl, rfl, rfl, rfl, rfl⟩ := e
    obtain ⟨g0, rfl, rfl, rfl, rfl, rfl, rfl⟩ := g
    show SPp (zhs, nv 7, nv 13, fv 23)
    rcases hFL with ⟨hhs, -, -, -, -⟩ | ⟨hhs, -, -, -, -⟩
    · rw [hhs]; exact hp
    · exact Or.inl hhs
def SR (Sx : CX) (Sm : CMx) : Prop := SRo Sx Sm ∧ SG Sx Sm ∧ SP Sx
theorem sr_0 : SR x0S m0S := ⟨sro_0, sg_0, sp_0⟩
theorem sr_feed {Sx ux : CX} {Sm um : CMx} {p0 : Int32} {p1 : Int32} {p2 : Int32} {p3 : Int32} {p4 : Int32} {r r' : Int32} (h : SR Sx Sm) (fx : xFact Sx) (fm : mFact Sm) (hx : xM_feed Sx p0 p1 p2 p3 p4 r ux) (hm : mM_feed Sm p0 p1 p2 p3 p4 r' um) : SR ux um := ⟨sro_feed h.1 fx fm hx hm, sg_of (kxG_feed hx) (kmG_feed hm) h.2.1, sp_of (kxP_feed hx) h.2.2⟩
theorem sr_end {Sx ux : CX} {Sm um : CMx} {p0 : Int32} {r r' : Int32} (h : SR Sx Sm) (fx : xFact Sx) (fm : mFact Sm) (hx : xM_end Sx p0 r ux) (hm : mM_end Sm p0 r' um) : SR ux um := ⟨sro_end h.1 fx fm hx hm, sg_of (kxG_end hx) (kmG_end hm) h.2.1, sp_of (kxP_end hx) h.2.2⟩
theorem sr_fault {Sx ux : CX} {Sm um : CMx} {p0 : Int32} {r r' : Int32} (h : SR Sx Sm) (fx : xFact Sx) (fm : mFact Sm) (hx : xM_fault Sx p0 r ux) (hm : mM_fault Sm p0 r' um) : SR ux um := ⟨sro_fault h.1 fx fm hx hm, sg_of (kxG_fault hx) (kmG_fault hm) h.2.1, sp_of (kxP_fault hx) h.2.2⟩
theorem sr_about {Sx ux : CX} {Sm um : CMx} {p0 : Int32} {r r' : Int32} (h : SR Sx Sm) (fx : xFact Sx) (fm : mFact Sm) (hx : xM_about Sx p0 r ux) (hm : mM_about Sm p0 r' um) : SR ux um := ⟨sro_about h.1 fx fm hx hm, sg_of (kxG_about hx) (kmG_about hm) h.2.1, sp_of (kxP_about hx) h.2.2⟩
theorem sr_place {Sx ux : CX} {Sm um : CMx} {p0 : Int32} {p1 : Int32} {r r' : Int32} (h : SR Sx Sm) (fx : xFact Sx) (fm : mFact Sm) (hx : xM_place Sx p0 p1 r ux) (hm : mM_place Sm p0 p1 r' um) : SR ux um := ⟨sro_place h.1 fx fm hx hm, sg_of (kxG_place hx) (kmG_place hm) h.2.1, sp_of (kxP_place hx) h.2.2⟩
theorem sr_edge {Sx ux : CX} {Sm um : CMx} {p0 : Int32} {p1 : Int32} {r r' : Int32} (h : SR Sx Sm) (fx : xFact Sx) (fm : mFact Sm) (hx : xM_edge Sx p0 p1 r ux) (hm : mM_edge Sm p0 p1 r' um) : SR ux um := ⟨sro_edge h.1 fx fm hx hm, sg_of (kxG_edge hx) (kmG_edge hm) h.2.1, sp_of (kxP_edge hx) h.2.2⟩
theorem sr_condition {Sx ux : CX} {Sm um : CMx} {p0 : Int32} {p1 : Int32} {p2 : Int32} {r r' : Int32} (h : SR Sx Sm) (fx : xFact Sx) (fm : mFact Sm) (hx : xM_condition Sx p0 p1 p2 r ux) (hm : mM_condition Sm p0 p1 p2 r' um) : SR ux um := ⟨sro_condition h.1 fx fm hx hm, sg_of (kxG_condition hx) (kmG_condition hm) h.2.1, sp_of (kxP_condition hx) h.2.2⟩
theorem sr_limit {Sx ux : CX} {Sm um : CMx} {p0 : Int32} {p1 : Int32} {r r' : Int32} (h : SR Sx Sm) (fx : xFact Sx) (fm : mFact Sm) (hx : xM_limit Sx p0 p1 r ux) (hm : mM_limit Sm p0 p1 r' um) : SR ux um := ⟨sro_limit h.1 fx fm hx hm, sg_of (kxG_limit hx) (kmG_limit hm) h.2.1, sp_of (kxP_limit hx) h.2.2⟩
theorem sr_rings {Sx ux : CX} {Sm um : CMx} {r r' : Int32} (h : SR Sx Sm) (fx : xFact Sx) (fm : mFact Sm) (hx : xM_rings Sx r ux) (hm : mM_rings Sm r' um) : SR ux um := ⟨sro_rings h.1 fx fm hx hm, sg_of (kxG_rings hx) (kmG_rings hm) h.2.1, sp_of (kxP_rings hx) h.2.2⟩
theorem sr_automaton {Sx ux : CX} {Sm um : CMx} {r r' : Int32} (h : SR Sx Sm) (fx : xFact Sx) (fm : mFact Sm) (hx : xM_automaton Sx r ux) (hm : mM_automaton Sm r' um) : SR ux um := ⟨sro_automaton h.1 fx fm hx hm, sg_automaton h.1 fx fm h.2.1 hx hm, sp_automaton h.1 fx fm h.2.2 hx hm⟩
theorem sr_number {Sx ux : CX} {Sm um : CMx} {p0 : Int32} {p1 : Int32} {p2 : Int32} {r r' : Int32} (h : SR Sx Sm) (fx : xFact Sx) (fm : mFact Sm) (hx : xM_number Sx p0 p1 p2 r ux) (hm : mM_number Sm p0 p1 p2 r' um) : SR ux um := ⟨sro_number h.1 fx fm hx hm, sg_number h.1 fx fm h.2.1 hx hm, sp_number h.1 fx fm h.2.2 hx hm⟩
theorem sr_urgent {Sx ux : CX} {Sm um : CMx} {p0 : Int32} {a1 : Nat} {r r' : Int32} (h : SR Sx Sm) (fx : xFact Sx) (fm : mFact Sm) (hx : xM_urgent Sx p0 a1 r ux) (hm : mM_urgent Sm p0 a1 r' um) (ha : a1 ≤ 1 := by decide) : SR ux um := ⟨sro_urgent h.1 fx fm hx hm ha, sg_urgent h.1 fx fm h.2.1 hx hm ha, sp_urgent h.1 fx fm h.2.2 hx hm ha⟩
theorem sr_undo {Sx ux : CX} {Sm um : CMx} {r r' : Int32} (h : SR Sx Sm) (fx : xFact Sx) (fm : mFact Sm) (hx : xM_undo Sx r ux) (hm : mM_undo Sm r' um) : SR ux um := ⟨sro_undo h.1 fx fm hx hm, sg_undo h.1 fx fm h.2.1 hx hm, sp_undo h.1 fx fm h.2.2 hx hm⟩
theorem sr_begin {Sx ux : CX} {Sm um : CMx} {r r' : Int32} (h : SR Sx Sm) (fx : xFact Sx) (fm : mFact Sm) (hx : xM_begin Sx r ux) (hm : mM_begin Sm r' um) : SR ux um := ⟨sro_begin h.1 fx fm hx hm, sg_of (kxG_begin hx) (kmG_begin hm) h.2.1, sp_of (kxP_begin hx) h.2.2⟩
theorem sr_waits {Sx ux : CX} {Sm um : CMx} {p0 : Int32} {r r' : Int32} (h : SR Sx Sm) (fx : xFact Sx) (fm : mFact Sm) (hx : xM_waits Sx p0 r ux) (hm : mM_waits Sm p0 r' um) : SR ux um := ⟨sro_waits h.1 fx fm hx hm, sg_of (kxG_waits hx) (kmG_waits hm) h.2.1, sp_of (kxP_waits hx) h.2.2⟩
theorem sr_takes {Sx ux : CX} {Sm um : CMx} {p0 : Int32} {r r' : Int32} (h : SR Sx Sm) (fx : xFact Sx) (fm : mFact Sm) (hx : xM_takes Sx p0 r ux) (hm : mM_takes Sm p0 r' um) : SR ux um := ⟨sro_takes h.1 fx fm hx hm, sg_of (kxG_takes hx) (kmG_takes hm) h.2.1, sp_of (kxP_takes hx) h.2.2⟩
theorem sr_now {Sx ux : CX} {Sm um : CMx} {p0 : Int32} {r r' : Int32} (h : SR Sx Sm) (fx : xFact Sx) (fm : mFact Sm) (hx : xM_now Sx p0 r ux) (hm : mM_now Sm p0 r' um) : SR ux um := ⟨sro_now h.1 fx fm hx hm, sg_of (kxG_now hx) (kmG_now hm) h.2.1, sp_of (kxP_now hx) h.2.2⟩
theorem sr_graph {Sx ux : CX} {Sm um : CMx} {p0 : Int32} {a1 : Nat} {r r' : Int32} (h : SR Sx Sm) (fx : xFact Sx) (fm : mFact Sm) (hx : xM_graph Sx p0 a1 r ux) (hm : mM_graph Sm p0 a1 r' um) : SR ux um := ⟨sro_graph h.1 fx fm hx hm, (sg_graph h.1 fx fm h.2.1 hx hm).1, sp_graph h.1 fx fm h.2.2 hx hm⟩
theorem sr_first {Sx ux : CX} {Sm um : CMx} {p0 : Int32} {r r' : Int32} (h : SR Sx Sm) (fx : xFact Sx) (fm : mFact Sm) (hx : xM_first Sx p0 r ux) (hm : mM_first Sm p0 r' um) : SR ux um := ⟨sro_first h.1 fx fm hx hm, sg_of (kxG_first hx) (kmG_first hm) h.2.1, sp_of (kxP_first hx) h.2.2⟩
theorem sr_reached {Sx ux : CX} {Sm um : CMx} {r r' : Int32} (h : SR Sx Sm) (fx : xFact Sx) (fm : mFact Sm) (hx : xM_reached Sx r ux) (hm : mM_reached Sm r' um) : SR ux um := ⟨sro_reached h.1 fx fm hx hm, sg_of (kxG_reached hx) (kmG_reached hm) h.2.1, sp_of (kxP_reached hx) h.2.2⟩
theorem sr_taken {Sx ux : CX} {Sm um : CMx} {r r' : Int32} (h : SR Sx Sm) (fx : xFact Sx) (fm : mFact Sm) (hx : xM_taken Sx r ux) (hm : mM_taken Sm r' um) : SR ux um := ⟨sro_taken h.1 fx fm hx hm, sg_of (kxG_taken hx) (kmG_taken hm) h.2.1, sp_of (kxP_taken hx) h.2.2⟩
theorem sr_avoids {Sx ux : CX} {Sm um : CMx} {p0 : Int32} {p1 : Int32} {r r' : Int32} (h : SR Sx Sm) (fx : xFact Sx) (fm : mFact Sm) (hx : xM_avoids Sx p0 p1 r ux) (hm : mM_avoids Sm p0 p1 r' um) : SR ux um := ⟨sro_avoids h.1 fx fm hx hm, sg_avoids h.1 fx fm h.2.1 hx hm, sp_of (kxP_avoids hx) h.2.2⟩
theorem sr_from {Sx ux : CX} {Sm um : CMx} {p0 : Int32} {p1 : Int32} {p2 : Int32} {p3 : Int32} {p4 : Int32} {r r' : Int32} (h : SR Sx Sm) (fx : xFact Sx) (fm : mFact Sm) (hx : xM_from Sx p0 p1 p2 p3 p4 r ux) (hm : mM_from Sm p0 p1 p2 p3 p4 r' um) : SR ux um := ⟨sro_from h.1 fx fm hx hm, sg_from h.1 fx fm h.2.1 hx hm, sp_of (kxP_from hx) h.2.2⟩
theorem sr_soonest {Sx ux : CX} {Sm um : CMx} {p0 : Int32} {p1 : Int32} {r r' : Int32} (h : SR Sx Sm) (fx : xFact Sx) (fm : mFact Sm) (hx : xM_soonest Sx p0 p1 r ux) (hm : mM_soonest Sm p0 p1 r' um) : SR ux um := ⟨sro_soonest h.1 fx fm hx hm, sg_soonest h.1 fx fm h.2.1 hx hm, sp_of (kxP_soonest hx) h.2.2⟩
theorem sr_lets {Sx ux : CX} {Sm um : CMx} {p0 : Int32} {p1 : Int32} {p2 : Int32} {p3 : Int32} {r r' : Int32} (h : SR Sx Sm) (fx : xFact Sx) (fm : mFact Sm) (hx : xM_lets Sx p0 p1 p2 p3 r ux) (hm : mM_lets Sm p0 p1 p2 p3 r' um) : SR ux um := ⟨sro_lets h.1 fx fm hx hm, sg_lets h.1 fx fm h.2.1 hx hm, sp_of (kxP_lets hx) h.2.2⟩
theorem sr_run {Sx ux : CX} {Sm um : CMx} {p0 : Int32} {p1 : Int32} {r r' : Int32} (h : SR Sx Sm) (fx : xFact Sx) (fm : mFact Sm) (hx : xM_run Sx p0 p1 r ux) (hm : mM_run Sm p0 p1 r' um) : SR ux um := ⟨sro_run h.1 fx fm hx hm, sg_of (kxG_run hx) (kmG_run hm) h.2.1, sp_of (kxP_run hx) h.2.2⟩
theorem sr_when {Sx ux : CX} {Sm um : CMx} {p0 : Int32} {p1 : Int32} {r r' : Int32} (h : SR Sx Sm) (fx : xFact Sx) (fm : mFact Sm) (hx : xM_when Sx p0 p1 r ux) (hm : mM_when Sm p0 p1 r' um) : SR ux um := ⟨sro_when h.1 fx fm hx hm, sg_of (kxG_when hx) (kmG_when hm) h.2.1, sp_of (kxP_when hx) h.2.2⟩
theorem sr_then {Sx ux : CX} {Sm um : CMx} {p0 : Int32} {p1 : Int32} {p2 : Int32} {r r' : Int32} (h : SR Sx Sm) (fx : xFact Sx) (fm : mFact Sm) (hx : xM_then Sx p0 p1 p2 r ux) (hm : mM_then Sm p0 p1 p2 r' um) : SR ux um := ⟨sro_then h.1 fx fm hx hm, sg_of (kxG_then hx) (kmG_then hm) h.2.1, sp_of (kxP_then hx) h.2.2⟩
theorem sr_latest {Sx ux : CX} {Sm um : CMx} {p0 : Int32} {p1 : Int32} {p2 : Int32} {r r' : Int32} (h : SR Sx Sm) (fx : xFact Sx) (fm : mFact Sm) (hx : xM_latest Sx p0 p1 p2 r ux) (hm : mM_latest Sm p0 p1 p2 r' um) : SR ux um := ⟨sro_latest h.1 fx fm hx hm, sg_of (kxG_latest hx) (kmG_latest hm) h.2.1, sp_of (kxP_latest hx) h.2.2⟩
theorem sr_spans {Sx ux : CX} {Sm um : CMx} {p0 : Int32} {p1 : Int32} {r r' : Int32} (h : SR Sx Sm) (fx : xFact Sx) (fm : mFact Sm) (hx : xM_spans Sx p0 p1 r ux) (hm : mM_spans Sm p0 p1 r' um) : SR ux um := ⟨sro_spans h.1 fx fm hx hm, sg_of (kxG_spans hx) (kmG_spans hm) h.2.1, sp_of (kxP_spans hx) h.2.2⟩
theorem sr_tells {Sx ux : CX} {Sm um : CMx} {p0 : Int32} {p1 : Int32} {p2 : Int32} {p3 : Int32} {p4 : Int32} {p5 : Int32} {r r' : Int32} (h : SR Sx Sm) (fx : xFact Sx) (fm : mFact Sm) (hx : xM_tells Sx p0 p1 p2 p3 p4 p5 r ux) (hm : mM_tells Sm p0 p1 p2 p3 p4 p5 r' um) : SR ux um := ⟨sro_tells h.1 fx fm hx hm, sg_of (kxG_tells hx) (kmG_tells hm) h.2.1, sp_of (kxP_tells hx) h.2.2⟩
theorem sr_replays {Sx ux : CX} {Sm um : CMx} {p0 : Int32} {r r' : Int32} (h : SR Sx Sm) (fx : xFact Sx) (fm : mFact Sm) (hx : xM_replays Sx p0 r ux) (hm : mM_replays Sm p0 r' um) : SR ux um := ⟨sro_replays h.1 fx fm hx hm, sg_of (kxG_replays hx) (kmG_replays hm) h.2.1, sp_of (kxP_replays hx) h.2.2⟩
theorem sr_within {Sx ux : CX} {Sm um : CMx} {p0 : Int32} {p1 : Int32} {r r' : Int32} (h : SR Sx Sm) (fx : xFact Sx) (fm : mFact Sm) (hx : xM_within Sx p0 p1 r ux) (hm : mM_within Sm p0 p1 r' um) : SR ux um := ⟨sro_within h.1 fx fm hx hm, sg_of (kxG_within hx) (kmG_within hm) h.2.1, sp_of (kxP_within hx) h.2.2⟩
theorem sr_bound {Sx ux : CX} {Sm um : CMx} {p0 : Int32} {p1 : Int32} {p2 : Int32} {p3 : Int32} {r r' : Int32} (h : SR Sx Sm) (fx : xFact Sx) (fm : mFact Sm) (hx : xM_bound Sx p0 p1 p2 p3 r ux) (hm : mM_bound Sm p0 p1 p2 p3 r' um) : SR ux um := ⟨sro_bound h.1 fx fm hx hm, sg_of (kxG_bound hx) (kmG_bound hm) h.2.1, sp_of (kxP_bound hx) h.2.2⟩
theorem sr_has {Sx ux : CX} {Sm um : CMx} {p0 : Int32} {p1 : Int32} {p2 : Int32} {p3 : Int32} {r r' : Int32} (h : SR Sx Sm) (fx : xFact Sx) (fm : mFact Sm) (hx : xM_has Sx p0 p1 p2 p3 r ux) (hm : mM_has Sm p0 p1 p2 p3 r' um) : SR ux um := ⟨sro_has h.1 fx fm hx hm, sg_of (kxG_has hx) (kmG_has hm) h.2.1, sp_of (kxP_has hx) h.2.2⟩
theorem sr_state {Sx ux : CX} {Sm um : CMx} {p0 : Int32} {p1 : Int32} {r r' : Int32} (h : SR Sx Sm) (fx : xFact Sx) (fm : mFact Sm) (hx : xM_state Sx p0 p1 r ux) (hm : mM_state Sm p0 p1 r' um) : SR ux um := ⟨sro_state h.1 fx fm hx hm, sg_state h.1 fx fm h.2.1 hx hm, sp_of (kxP_state hx) h.2.2⟩
theorem sr_covered {Sx ux : CX} {Sm um : CMx} {p0 : Int32} {r r' : Int32} (h : SR Sx Sm) (fx : xFact Sx) (fm : mFact Sm) (hx : xM_covered Sx p0 r ux) (hm : mM_covered Sm p0 r' um) : SR ux um := ⟨sro_covered h.1 fx fm hx hm, sg_covered h.1 fx fm h.2.1 hx hm, sp_of (kxP_covered hx) h.2.2⟩
theorem sr_overlap {Sx ux : CX} {Sm um : CMx} {p0 : Int32} {p1 : Int32} {r r' : Int32} (h : SR Sx Sm) (fx : xFact Sx) (fm : mFact Sm) (hx : xM_overlap Sx p0 p1 r ux) (hm : mM_overlap Sm p0 p1 r' um) : SR ux um := ⟨sro_overlap h.1 fx fm hx hm, sg_overlap h.1 fx fm h.2.1 hx hm, sp_of (kxP_overlap hx) h.2.2⟩
theorem sr_points {Sx ux : CX} {Sm um : CMx} {p0 : Int32} {r r' : Int32} (h : SR Sx Sm) (fx : xFact Sx) (fm : mFact Sm) (hx : xM_points Sx p0 r ux) (hm : mM_points Sm p0 r' um) : SR ux um := ⟨sro_points h.1 fx fm hx hm, sg_of (kxG_points hx) (kmG_points hm) h.2.1, sp_of (kxP_points hx) h.2.2⟩
theorem sr_clock {Sx : CX} {Sm um : CMx} {p0 r' : Int32} (h : SR Sx Sm) (fx : xFact Sx) (fm : mFact Sm) (hm : mM_clock Sm p0 r' um) : SR Sx um := ⟨sro_clock h.1 fx fm hm, sg_of rfl (kmG_clock hm) h.2.1, h.2.2⟩
theorem eq_run {Sx ux : CX} {Sm um : CMx} {p0 : Int32} {p1 : Int32} {r r' : Int32} (h : SR Sx Sm) (fx : xFact Sx) (fm : mFact Sm) (hx : xM_run Sx p0 p1 r ux) (hm : mM_run Sm p0 p1 r' um) : r = r' := by
  obtain ⟨h, hg, hp⟩ := h
  have f1 := m_bk fm
  obtain ⟨nv, iv, vv, fv, qv, fcv, qs, fz, ps, gz⟩ := Sx
  obtain ⟨nw, iw, fw, qw⟩ := Sm
  obtain ⟨e1, e2, hne, e3, e4, em⟩ := h
  have f1 : nw 0 ≤ 1 := f1
  have em : MB (nw 0) (nv 6) (nv 7) (nv 8) (iv 4) (fv 3) (qv 0) (qv 1) (fv 4) (qv 2) (qv 3) (fv 5) (fv 6) (fw 2) (qw 0) (qw 1) (qw 2) (qw 3) (fw 3) (qw 4) (qw 5) (fw 4) (bkN (nw 0) (nw 17) (nw 18)) (bkN (nw 0) (nw 19) (nw 20)) (bkN (nw 0) (nw 21) (nw 22)) (bkN (nw 0) (nw 23) (nw 24)) ∧ STQ (nv 7) (iv 4) (bkN (nw 0) (nw 23) (nw 24)) ∧ WFm (nv 6) (nv 7) (nv 8) (fv 3) (qv 2) (qv 3) (fv 5) (fv 6) (fv 7) (fv 8) ∧ MS (nv 6) (nv 7) (qv 2) (qv 3) (fv 5) (fv 6) (fv 9) (fv 10) (fv 11) ∧ HR (nw 0) (nv 7) (nv 8) (qv 2) (nv 12) (fv 21) (fv 22) (nw 9) (qw 6) (fw 6) := em
  obtain ⟨m1, m2, m3, m4, m5⟩ := em
  have hc3 : nv 6 ≤ 3 := m1.1.2.1
  have np8 : nv 7 ≤ 8 := m1.1.2.2.2.1
  have e13 : bkN (nw 0) (nw 19) (nw 20) = nv 7 := m1.1.2.2.1
  have hg : SGL (nv 6) (nv 7) (nv 1) (nv 13) (nv 14) (iv 6) (iv 7) (qv 8) (fv 23) (fv 24) (fv 25) qs fz (nw 7) (nw 25) (iw 6) (qw 7) (fw 11) (fw 12) (fw 13) (fw 7) (fw 14) (fw 15) := hg
  have no : ∀ p : Int32, nv 7 = 0 → ¬ ((0 : Int32) ≤ p ∧ p < nI (nv 7)) := by
    intro p n0 z
    have z2 := z.2
    rw [n0, show (nI 0 : Int32) = 0 by rfl] at z2
    exact Int32.not_lt.mpr z.1 z2
  have hp : nv 1 = 0 ∨ (PAR (nv 13) (fv 23) ∧ nv 13 ≤ 120) := hp
  have ec : sp_EM_clocks (nw 0) (nw 17) (nw 18) = nv 6 := m1.1.1
  have R := run_same ec hc3 hg hp (nv 30) (nw 13) (qv 12) (qw 8) p0 p1
  obtain ⟨z54, z0, z46, z61, g, rfl⟩ := hm
  rcases hx with ⟨⟨n0, n1, n2⟩, e, rfl⟩ | ⟨sn, hsn, est, zj, zn, e, rfl⟩
  · have n1 : nv 1 = 0 := n1
    have c0 : ¬ isStp (nv 1) (nv 13) (fv 25) p0 p1 := fun q => absurd q.1 (by omega)
    have E : (sp_E_8_run (nv 1) (nv 13) (fv 23) (fv 24) (fv 25) (nv 30) (qv 12) p0 p1).1 = -1 := by simp only [sp_E_8_run, if_neg c0]
    have e : r = -1 := e
    rw [e, ← E, ← R]
    exact (congrArg Prod.fst g).symm
  · exact (congrArg Prod.fst e).trans (R.symm.trans (congrArg Prod.fst g).symm)
theorem kk_i {D : va_G} {tys : List (ClassId × FieldType)} {U : State} {c c' : ClassId} (hK : va_K D vwCl tys U) (h1 : (c, FieldType.int) ∈ tys) (h2 : (c', FieldType.int) ∈ tys) : c = c' := by
  obtain ⟨i, hi⟩ := List.getElem?_of_mem h1
  obtain ⟨j, hj⟩ := List.getElem?_of_mem h2
  have g1 : U.vm.findClass ("[" ++ FieldType.int.toString) = some c := (hK.2 i _ hi).2
  have g2 : U.vm.findClass ("[" ++ FieldType.int.toString) = some c' := (hK.2 j _ hj).2
  exact Option.some.inj (g1.symm.trans g2)
theorem kk_b {D : va_G} {tys : List (ClassId × FieldType)} {U : State} {c c' : ClassId} (hK : va_K D vwCl tys U) (h1 : (c, FieldType.boolean) ∈ tys) (h2 : (c', FieldType.boolean) ∈ tys) : c = c' := by
  obtain ⟨i, hi⟩ := List.getElem?_of_mem h1
  obtain ⟨j, hj⟩ := List.getElem?_of_mem h2
  have g1 : U.vm.findClass ("[" ++ FieldType.boolean.toString) = some c := (hK.2 i _ hi).2
  have g2 : U.vm.findClass ("[" ++ FieldType.boolean.toString) = some c' := (hK.2 j _ hj).2
  exact Option.some.inj (g1.symm.trans g2)
theorem kk_q {D : va_G} {tys : List (ClassId × FieldType)} {U : State} {C : String} {c c' : ClassId} (hK : va_K D vwCl tys U) (h1 : (c, FieldType.object C) ∈ tys) (h2 : (c', FieldType.object C) ∈ tys) : c = c' := by
  obtain ⟨i, hi⟩ := List.getElem?_of_mem h1
  obtain ⟨j, hj⟩ := List.getElem?_of_mem h2
  obtain ⟨-, -, -, -, -, g1⟩ := (hK.2 i _ hi).2
  obtain ⟨-, -, -, -, -, g2⟩ := (hK.2 j _ hj).2
  exact Option.some.inj (g1.symm.trans g2)
theorem zp_kc {n c N : Nat} {az ac : Nat → Nat} {kz : Nat → ClassId} {kI : ClassId} {q : Nat → Nat} {f : Nat → Nat → Int32} (h : ∀ j : Nat, j < N → kI = kz j) : zp n c N az ac kz q f = zp n c N az ac (fun _ => kI) q f := by
  unfold zp
  congr 1
  refine List.map_congr_left (fun j hj => ?_)
  unfold zpa
  rw [h j (List.mem_range.mp hj)]
theorem zt_in {N j : Nat} {kz : Nat → ClassId} (h : j < N) : (kz j, FieldType.int) ∈ zt N kz := List.mem_map.mpr ⟨j, List.mem_range.mpr h, rfl⟩
theorem m14 {x tp rd md dr hy g t u rm S ti py bu sm P0 P1 P2 P3 P4 : va_W} : ∀ q ∈ (x ++ (tp ++ (rd ++ (md ++ (dr ++ (hy ++ (g ++ (t ++ (u ++ (rm ++ (ti ++ (py ++ (bu ++ sm))))))))))))) ++ ((P1 ++ (P0 ++ (P3 ++ (P4 ++ S)))) ++ P2), q ∈ x ++ (sm ++ (bu ++ (py ++ (ti ++ (((rm ++ S) ++ (P4 ++ (P3 ++ []))) ++ ((u ++ (P2 ++ [])) ++ ((t ++ (P1 ++ [])) ++ ((g ++ (P0 ++ [])) ++ (hy ++ (dr ++ (md ++ (rd ++ (tp ++ []))))))))))))) := fun q hq => by
  simp only [List.mem_append] at hq ⊢
  rcases hq with (hq | hq | hq | hq | hq | hq | hq | hq | hq | hq | hq | hq | hq | hq) | ((hq | hq | hq | hq | hq) | hq) <;> simp only [hq, true_or, or_true]
theorem vP14 {D : va_G} {H : Heap} {x tp rd md dr hy g t u rm S ti py bu sm P0 P1 P2 P3 P4 : va_W} (h : va_P D vwCl (x ++ (sm ++ (bu ++ (py ++ (ti ++ (((rm ++ S) ++ (P4 ++ (P3 ++ []))) ++ ((u ++ (P2 ++ [])) ++ ((t ++ (P1 ++ [])) ++ ((g ++ (P0 ++ [])) ++ (hy ++ (dr ++ (md ++ (rd ++ (tp ++ [])))))))))))))) H) : va_P D vwCl ((x ++ (tp ++ (rd ++ (md ++ (dr ++ (hy ++ (g ++ (t ++ (u ++ (rm ++ (ti ++ (py ++ (bu ++ sm))))))))))))) ++ ((P1 ++ (P0 ++ (P3 ++ (P4 ++ S)))) ++ P2)) H := wm_P m14 h
theorem vD14 {A : Nat → Prop} {x tp rd md dr hy g t u rm S ti py bu sm P0 P1 P2 P3 P4 : va_W} (h : va_D A (x ++ (sm ++ (bu ++ (py ++ (ti ++ (((rm ++ S) ++ (P4 ++ (P3 ++ []))) ++ ((u ++ (P2 ++ [])) ++ ((t ++ (P1 ++ [])) ++ ((g ++ (P0 ++ [])) ++ (hy ++ (dr ++ (md ++ (rd ++ (tp ++ []))))))))))))))) : va_D A ((x ++ (tp ++ (rd ++ (md ++ (dr ++ (hy ++ (g ++ (t ++ (u ++ (rm ++ (ti ++ (py ++ (bu ++ sm))))))))))))) ++ ((P1 ++ (P0 ++ (P3 ++ (P4 ++ S)))) ++ P2)) := vD_of ((List.perm_iff_count.mpr (fun a => by
  simp only [List.map_append, List.count_append, List.map_nil, List.count_nil]
  omega)).nodup (vD_nd h)) (fun q hq => by
  obtain ⟨k, hk⟩ := List.getElem?_of_mem (m14 q hq)
  exact h.2 k q hk)
theorem zp_one {n c q q1 : Nat} {k1 : ClassId} : ([(q, .inr (7, [.ref q1, .int 0])), (q1, .inl (k1, c, .inl (fun _ => 0)))] : va_W) = zp n c 1 (fun _ => q) (fun _ => q1) (fun _ => k1) q0z f0z := by
  have h := zp_succ (n := n) (c := c) (i := 0) (q := q) (q1 := q1) (k1 := k1) (az := fun _ => q) (ac := fun _ => q1) (kz := fun _ => k1)
  have e1 : pz 0 q (fun _ => q) = fun _ => q := by funext j; unfold pz; split <;> rfl
  have e2 : pz 0 q1 (fun _ => q1) = fun _ => q1 := by funext j; unfold pz; split <;> rfl
  have e3 : pz 0 k1 (fun _ => k1) = fun _ => k1 := by funext j; unfold pz; split <;> rfl
  rw [e1, e2, e3] at h
  exact h.symm
theorem ct2_k {kI : ClassId} {a : Nat} : ct2 a (fun _ => kI) (fun _ => kI) = fun _ => kI := by
  funext j
  unfold ct2
  split <;> rfl
theorem vD_self {A : Nat → Prop} {ws : va_W} (h : va_D A ws) : va_D (fun q => q ∈ ws.map Prod.fst) ws := ⟨h.1, fun _ q hq => List.mem_map.mpr ⟨q, List.mem_of_getElem? hq, rfl⟩⟩
theorem b2_z : (fun _ => 0 : Nat → Int32) = b2 0 0 := by
  funext i
  unfold b2
  split
  · rfl
  · split <;> rfl
theorem bH_z : (fun _ => 0 : Nat → Int32) = bH (fun _ => 0) := by
  funext i
  unfold bH
  rw [Nat.zero_min]
  rfl
theorem bA_z {h : Nat} : (fun _ => 0 : Nat → Int32) = bA h (fun _ => 0) := by
  funext i
  unfold bA
  rw [if_pos (Nat.zero_le _)]
  rfl
theorem b2m_z : upd (upd (fun _ => 0) (0 : Int32).toNatClampNeg (-1)) (1 : Int32).toNatClampNeg (-1) = b2m 0 0 := by
  have h : (fun _ => 0 : Nat → Int32) = fun i => if i = 0 then 0 else if i = 1 then 0 else 0 := by
    funext i
    split
    · rfl
    · split <;> rfl
  funext i
  have e0 : (0 : Int32).toNatClampNeg = 0 := by decide
  have e1 : (1 : Int32).toNatClampNeg = 1 := by decide
  rw [e0, e1]
  unfold upd b2m mI
  by_cases h1 : i = 1
  · rw [if_pos h1, if_neg (by omega), if_pos h1, if_pos rfl]
  · rw [if_neg h1]
    by_cases h0 : i = 0
    · rw [if_pos h0, if_pos h0, if_pos rfl]
    · rw [if_neg h0, if_neg h0, if_neg h1]
theorem mi_keep {D : va_G} {kI kB : ClassId} {ma : Nat} {MA : Nat → Prop} {S : CMx} {H H1 : Heap} (h : MInv D kI kB ma MA S H) (hk : ∀ q : Nat, q < H.size → MA q → H1[q]? = H[q]?) : MInv D kI kB ma MA S H1 := by
  obtain ⟨nv, iv, fv, qv⟩ := S
  obtain ⟨⟨hr, hbg, hgr⟩, ad, rfl, hP, hD⟩ := h
  have hP2 := hP.kept (H1 := H1) (fun k q hq => hk q.1 (hP k q hq).lt (hD.2 k q hq))
  exact ⟨⟨hr, hbg, hgr⟩, ad, rfl, hP2, hD⟩
theorem mi_recv {D : va_G} {kI kB : ClassId} {ma : Nat} {MA : Nat → Prop} {S : CMx} {H : Heap} (h : MInv D kI kB ma MA S H) : ∃ fs : List Value, va_P D vwCl [(ma, .inr (9, fs))] H := by
  obtain ⟨nv, iv, fv, qv⟩ := S
  obtain ⟨⟨hr, hbg, hgr⟩, ad, rfl, hP, hD⟩ := h
  exact ⟨_, hP.sub [0] rfl⟩
