/-- all cells in the order in which they are made -/
abbrev allL (G : Geo) (x c ar op as wh rd r1 r2 r3 r4 r5 r6 mr : Nat) (a : Nat → Nat → Nat) (b : Nat → Nat) : va_W := (((x, .inr (9, [.ref c, .ref ar, .ref op, .ref as])) :: (crowB G c wh rd r1 r2 r3 r4 r5 r6 mr (fun j => some (a j 0)) ++ membs G a 12)) ++ [(ar, .inr (0, [.ref c]))] ++ [(op, .inr (4, [.ref c]))] ++ [(as, .inr (1, [.ref c]))]) ++ modL G b
set_option maxHeartbeats 40000000 in
set_option maxRecDepth 100000 in
theorem all_at (D : va_G) (g0 : Nat → Nat → Nat) (cI cZ cM : ClassId) (x c ar op as wh rd r1 r2 r3 r4 r5 r6 mr : Nat) (a : Nat → Nat → Nat) (b : Nat → Nat) : whereL.map (fun i => (allL (D, g0, cI, cZ, cM) x c ar op as wh rd r1 r2 r3 r4 r5 r6 mr a b)[i]?) = (wl (D, geoA [x, c, ar, op, as, wh, rd, r1, r2, r3, r4, r5, r6, mr] a b, cI, cZ, cM) v0).map some := by
  rfl
