/-- the contents of a fresh object -/
abbrev x0S : CX := ((fun _ => 0), (fun n => [0, (-1), 0, 0, (-1), (-1), 0, 0, 0, 0, 0, 0, 0, 0, 0, 0, 0, 0, 0].getD n 0), (fun _ => .null), (fun _ => (fun _ => 0)), (fun _ => (fun _ => 0)), (fun _ => none), q0z, f0z, q0z, f0z)
abbrev m0S : CMx := ((fun _ => 0), (fun n => [0, 0, 0, 0, (-1), 0, 0, 0].getD n 0), (fun _ => (fun _ => 0)), (fun _ => (fun _ => 0)))
