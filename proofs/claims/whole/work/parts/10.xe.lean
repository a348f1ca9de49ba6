set_option maxRecDepth 1000000 in
set_option maxHeartbeats 8000000 in
theorem eX0_isMissing (g f : Nat) (a0 : Nat) (h : ah_H) : ah_fun (kX0_isMissing g) 1 (f + 1) [.ref a0] h =
  (ah_fi h a0 [0] 2).bind fun v1 =>
  if (v1 : Int32) = 0 then
    some (some (.int 1), h)
  else
    some (some (.int 0), h) := Eq.trans rfl rfl
set_option maxRecDepth 1000000 in
set_option maxHeartbeats 8000000 in
theorem eX0_has (g f : Nat) (a0 : Nat) (p1 : Int32) (h : ah_H) : ah_fun (kX0_has g) 2 (f + 1) [.ref a0, .int p1] h =
  if (p1 : Int32) < 0 then
    some (some (.int 0), h)
  else
    (ah_fi h a0 [0] 2).bind fun v1 =>
    if (p1 : Int32) < v1 then
      some (some (.int 1), h)
    else
      some (some (.int 0), h) := Eq.trans rfl rfl
set_option maxRecDepth 1000000 in
set_option maxHeartbeats 8000000 in
theorem eX0_hasTwo (g f : Nat) (a0 : Nat) (p1 : Int32) (p2 : Int32) (h : ah_H) : ah_fun (kX0_hasTwo g) 3 (f + 1) [.ref a0, .int p1, .int p2] h =
  (ah_ob h a0).bind fun o1 => (ah_sel [(0, aX0_has g)] o1.1).bind fun F2 =>
  (ah_rI (F2 [.ref a0, .int p1] h)).bind fun z3 =>
  if (z3.1 : Int32) = 0 then
    some (some (.int 0), z3.2)
  else
    (ah_ob z3.2 a0).bind fun o4 => (ah_sel [(0, aX0_has g)] o4.1).bind fun F5 =>
    (ah_rI (F5 [.ref a0, .int p2] z3.2)).bind fun z6 =>
    if (z6.1 : Int32) = 0 then
      some (some (.int 0), z6.2)
    else
      if (p1 : Int32) = p2 then
        some (some (.int 0), z6.2)
      else
        some (some (.int 1), z6.2) := Eq.trans rfl rfl
set_option maxRecDepth 1000000 in
set_option maxHeartbeats 8000000 in
theorem eX0_isPaired (g f : Nat) (a0 : Nat) (p1 : Int32) (h : ah_H) : ah_fun (kX0_isPaired g) 2 (f + 1) [.ref a0, .int p1] h =
  (ah_fr h a0 [0] 0).bind fun v1 =>
  (ah_lr h v1 2 p1).bind fun v2 =>
  (ah_fi h v2 [1, 3, 5, 8, 9] 3).bind fun v3 =>
  (ah_ob h a0).bind fun o4 => (ah_sel [(0, aX0_has g)] o4.1).bind fun F5 =>
  (ah_rI (F5 [.ref a0, .int v3] h)).bind fun z6 =>
  if (z6.1 : Int32) = 0 ∨ (z6.1 : Int32) = 1 then some (some (.int z6.1), z6.2) else none := Eq.trans rfl rfl
set_option maxRecDepth 1000000 in
set_option maxHeartbeats 8000000 in
theorem eX1_takes (g f : Nat) (a0 : Nat) (p1 : Nat) (h : ah_H) : ah_fun (kX1_takes g) 2 (f + 1) [.ref a0, .ref p1] h =
  (ah_fi h a0 [1, 3] 0).bind fun v1 =>
  (ah_fi h p1 [1, 3, 5, 8, 9] 0).bind fun v2 =>
  if (v1 : Int32) = v2 then
    some (some (.int 0), h)
  else
    bif ah_is h p1 [1, 3] then
      if (1 : Int32) = 0 then
        some (some (.int 0), h)
      else
        some (some (.int 1), h)
    else bif ah_is h p1 [5, 8, 9] then
      if (0 : Int32) = 0 then
        some (some (.int 0), h)
      else
        some (some (.int 1), h)
    else none := Eq.trans rfl rfl
set_option maxRecDepth 1000000 in
set_option maxHeartbeats 8000000 in
theorem eX5_takes (g f : Nat) (a0 : Nat) (p1 : Nat) (h : ah_H) : ah_fun (kX5_takes g) 2 (f + 1) [.ref a0, .ref p1] h =
  (ah_fi h a0 [5] 0).bind fun v1 =>
  (ah_fi h p1 [1, 3, 5, 8, 9] 0).bind fun v2 =>
  if (v1 : Int32) = v2 then
    some (some (.int 0), h)
  else
    (ah_fi h a0 [5] 1).bind fun v3 =>
    (ah_fi h p1 [1, 3, 5, 8, 9] 1).bind fun v4 =>
    if (v3 : Int32) = v4 then
      some (some (.int 1), h)
    else
      some (some (.int 0), h) := Eq.trans rfl rfl
set_option maxRecDepth 1000000 in
set_option maxHeartbeats 8000000 in
theorem eX8_takes (g f : Nat) (a0 : Nat) (p1 : Nat) (h : ah_H) : ah_fun (kX8_takes g) 2 (f + 1) [.ref a0, .ref p1] h =
  (ah_fi h a0 [1, 3, 5, 8, 9] 0).bind fun v1 =>
  (ah_fi h p1 [1, 3, 5, 8, 9] 0).bind fun v2 =>
  if (v1 : Int32) = v2 then
    some (some (.int 0), h)
  else
    some (some (.int 1), h) := Eq.trans rfl rfl
set_option maxRecDepth 1000000 in
set_option maxHeartbeats 8000000 in
theorem eX9_takes (g f : Nat) (a0 : Nat) (p1 : Nat) (h : ah_H) : ah_fun (kX9_takes g) 2 (f + 1) [.ref a0, .ref p1] h =
  bif ah_is h p1 [9] then
    some (some (.int 1), h)
  else bif ah_is h p1 [1, 3, 5, 8] then
    some (some (.int 0), h)
  else none := Eq.trans rfl rfl
set_option maxRecDepth 1000000 in
set_option maxHeartbeats 8000000 in
theorem eX8_distanceTo (g f : Nat) (a0 : Nat) (p1 : Nat) (h : ah_H) : ah_fun (kX8_distanceTo g) 2 (f + 1) [.ref a0, .ref p1] h =
  (ah_fi h a0 [1, 3, 5, 8, 9] 1).bind fun v1 =>
  (ah_fi h p1 [1, 3, 5, 8, 9] 1).bind fun v2 =>
  some (some (.int (if (0 : Int32) ≤ (v1 - v2) then (v1 - v2) else 0 - (v1 - v2))), h) := Eq.trans rfl rfl
set_option maxRecDepth 1000000 in
set_option maxHeartbeats 8000000 in
theorem eX3_distanceTo (g f : Nat) (a0 : Nat) (p1 : Nat) (h : ah_H) : ah_fun (kX3_distanceTo g) 2 (f + 1) [.ref a0, .ref p1] h =
  (ah_fi h a0 [3] 1).bind fun v1 =>
  (ah_fi h p1 [1, 3, 5, 8, 9] 1).bind fun v2 =>
  if (2 : Int32) = 0 then none else
  some (some (.int (((if (0 : Int32) ≤ (v1 - v2) then (v1 - v2) else 0 - (v1 - v2)) : Int32) / 2)), h) := Eq.trans rfl rfl
set_option maxRecDepth 1000000 in
set_option maxHeartbeats 8000000 in
theorem eX0_likenessOf (g f : Nat) (a0 : Nat) (p1 : Int32) (p2 : Int32) (h : ah_H) : ah_fun (kX0_likenessOf g) 5 (f + 1) [.ref a0, .int p1, .int p2] h =
  (ah_fr h a0 [0] 0).bind fun v1 =>
  (ah_lr h v1 2 p1).bind fun v2 =>
  (ah_fr h a0 [0] 0).bind fun v3 =>
  (ah_lr h v3 2 p2).bind fun v4 =>
  if (p1 : Int32) = p2 then
    some (some (.int (-1)), h)
  else
    (ah_ob h v2).bind fun o5 => (ah_sel [(1, aX1_takes g), (3, aX1_takes g), (5, aX5_takes g), (8, aX8_takes g), (9, aX9_takes g)] o5.1).bind fun F6 =>
    (ah_rI (F6 [.ref v2, .ref v4] h)).bind fun z7 =>
    if (z7.1 : Int32) = 0 then
      some (some (.int (-1)), z7.2)
    else
      (ah_ob z7.2 v4).bind fun o8 => (ah_sel [(1, aX1_takes g), (3, aX1_takes g), (5, aX5_takes g), (8, aX8_takes g), (9, aX9_takes g)] o8.1).bind fun F9 =>
      (ah_rI (F9 [.ref v4, .ref v2] z7.2)).bind fun z10 =>
      if (z10.1 : Int32) = 0 then
        some (some (.int (-1)), z10.2)
      else
        (ah_ob z10.2 v2).bind fun o11 => (ah_sel [(1, aX8_distanceTo g), (3, aX3_distanceTo g), (5, aX8_distanceTo g), (8, aX8_distanceTo g), (9, aX8_distanceTo g)] o11.1).bind fun F12 =>
        (ah_rI (F12 [.ref v2, .ref v4] z10.2)).bind fun z13 =>
        (ah_ob z13.2 v4).bind fun o14 => (ah_sel [(1, aX8_distanceTo g), (3, aX3_distanceTo g), (5, aX8_distanceTo g), (8, aX8_distanceTo g), (9, aX8_distanceTo g)] o14.1).bind fun F15 =>
        (ah_rI (F15 [.ref v4, .ref v2] z13.2)).bind fun z16 =>
        some (some (.int ((18 - z13.1) - z16.1)), z16.2) := Eq.trans rfl rfl
set_option maxRecDepth 1000000 in
set_option maxHeartbeats 8000000 in
theorem eX0_mayPair (g f : Nat) (a0 : Nat) (p1 : Int32) (p2 : Int32) (h : ah_H) : ah_fun (kX0_mayPair g) 3 (f + 1) [.ref a0, .int p1, .int p2] h =
  (ah_ob h a0).bind fun o1 => (ah_sel [(0, aX0_likenessOf g)] o1.1).bind fun F2 =>
  (ah_rI (F2 [.ref a0, .int p1, .int p2] h)).bind fun z3 =>
  if (z3.1 : Int32) = (-1) then
    some (some (.int 0), z3.2)
  else
    some (some (.int 1), z3.2) := Eq.trans rfl rfl
set_option maxRecDepth 1000000 in
set_option maxHeartbeats 8000000 in
theorem eX0_likenessAt (g f : Nat) (a0 : Nat) (p1 : Int32) (p2 : Int32) (p3 : Int32) (h : ah_H) : ah_fun (kX0_likenessAt g) 6 (f + 1) [.ref a0, .int p1, .int p2, .int p3] h =
  (ah_fr h a0 [0] 0).bind fun v1 =>
  (ah_lr h v1 2 p1).bind fun v2 =>
  (ah_fi h v2 [1, 3, 5, 8, 9] 1).bind fun v3 =>
  (ah_fr h a0 [0] 0).bind fun v4 =>
  (ah_lr h v4 2 p1).bind fun v5 =>
  (ah_sv h v5 [1, 3, 5, 8, 9] 1 (.int p2)).bind fun h6 =>
  (ah_ob h6 a0).bind fun o7 => (ah_sel [(0, aX0_likenessOf g)] o7.1).bind fun F8 =>
  (ah_rI (F8 [.ref a0, .int p1, .int p3] h6)).bind fun z9 =>
  (ah_fr z9.2 a0 [0] 0).bind fun v10 =>
  (ah_lr z9.2 v10 2 p1).bind fun v11 =>
  (ah_sv z9.2 v11 [1, 3, 5, 8, 9] 1 (.int v3)).bind fun h12 =>
  some (some (.int z9.1), h12) := Eq.trans rfl rfl
set_option maxRecDepth 1000000 in
set_option maxHeartbeats 8000000 in
theorem eX0_matchesOf (g f : Nat) (a0 : Nat) (p1 : Int32) (h : ah_H) : ah_fun (kX0_matchesOf g) 4 (f + 1) [.ref a0, .int p1] h =
  ah_run (kX0_matchesOf g) f 4 [(0, .ref a0), (1, .int p1), (2, .int 0), (3, .int 0)] [] h := Eq.trans rfl rfl
set_option maxRecDepth 1000000 in
set_option maxHeartbeats 8000000 in
theorem rX0_matchesOf_4 (g f : Nat) (x0 : Nat) (x1 : Int32) (x2 : Int32) (x3 : Int32) (h : ah_H) : ah_run (kX0_matchesOf g) (f + 1) 4 [(0, .ref x0), (1, .int x1), (2, .int x2), (3, .int x3)] [] h =
  (ah_fi h x0 [0] 2).bind fun v1 =>
  if (x3 : Int32) < v1 then
    (ah_ob h x0).bind fun o2 => (ah_sel [(0, aX0_mayPair g)] o2.1).bind fun F3 =>
    (ah_rI (F3 [.ref x0, .int x1, .int x3] h)).bind fun z4 =>
    if (z4.1 : Int32) = 0 then
      ah_run (kX0_matchesOf g) f 4 [(0, .ref x0), (1, .int x1), (2, .int x2), (3, .int (x3 + 1))] [] z4.2
    else
      ah_run (kX0_matchesOf g) f 4 [(0, .ref x0), (1, .int x1), (2, .int (x2 ||| (1 <<< (x3 &&& 31)))), (3, .int (x3 + 1))] [] z4.2
  else
    some (some (.int x2), h) := Eq.trans rfl rfl
set_option maxRecDepth 1000000 in
set_option maxHeartbeats 8000000 in
theorem eX0_favouriteOf (g f : Nat) (a0 : Nat) (p1 : Int32) (h : ah_H) : ah_fun (kX0_favouriteOf g) 6 (f + 1) [.ref a0, .int p1] h =
  ah_run (kX0_favouriteOf g) f 7 [(0, .ref a0), (1, .int p1), (2, .int (-1)), (3, .int (-1)), (4, .int 0)] [] h := Eq.trans rfl rfl
set_option maxRecDepth 1000000 in
set_option maxHeartbeats 8000000 in
theorem rX0_favouriteOf_7 (g f : Nat) (x0 : Nat) (x1 : Int32) (x2 : Int32) (x3 : Int32) (x4 : Int32) (h : ah_H) : ah_run (kX0_favouriteOf g) (f + 1) 7 [(0, .ref x0), (1, .int x1), (2, .int x2), (3, .int x3), (4, .int x4)] [] h =
  (ah_fi h x0 [0] 2).bind fun v1 =>
  if (x4 : Int32) < v1 then
    (ah_ob h x0).bind fun o2 => (ah_sel [(0, aX0_likenessOf g)] o2.1).bind fun F3 =>
    (ah_rI (F3 [.ref x0, .int x1, .int x4] h)).bind fun z4 =>
    if (x3 : Int32) < z4.1 then
      ah_run (kX0_favouriteOf g) f 7 [(0, .ref x0), (1, .int x1), (2, .int x4), (3, .int z4.1), (4, .int (x4 + 1))] [] z4.2
    else
      ah_run (kX0_favouriteOf g) f 7 [(0, .ref x0), (1, .int x1), (2, .int x2), (3, .int x3), (4, .int (x4 + 1))] [] z4.2
  else
    some (some (.int x2), h) := Eq.trans rfl rfl
set_option maxRecDepth 1000000 in
set_option maxHeartbeats 8000000 in
theorem eX0_seersAt (g f : Nat) (a0 : Nat) (p1 : Int32) (p2 : Int32) (h : ah_H) : ah_fun (kX0_seersAt g) 6 (f + 1) [.ref a0, .int p1, .int p2] h =
  ah_run (kX0_seersAt g) f 5 [(0, .ref a0), (1, .int p1), (2, .int p2), (3, .int 0), (4, .int 0)] [] h := Eq.trans rfl rfl
set_option maxRecDepth 1000000 in
set_option maxHeartbeats 8000000 in
theorem rX0_seersAt_5 (g f : Nat) (x0 : Nat) (x1 : Int32) (x2 : Int32) (x3 : Int32) (x4 : Int32) (h : ah_H) : ah_run (kX0_seersAt g) (f + 1) 5 [(0, .ref x0), (1, .int x1), (2, .int x2), (3, .int x3), (4, .int x4)] [] h =
  (ah_fi h x0 [0] 2).bind fun v1 =>
  if (x4 : Int32) < v1 then
    (ah_fr h x0 [0] 0).bind fun v2 =>
    (ah_lr h v2 2 x4).bind fun v3 =>
    (ah_fi h v3 [1, 3, 5, 8, 9] 2).bind fun v4 =>
    if (1 : Int32) < (if (0 : Int32) ≤ (v4 - x2) then (v4 - x2) else 0 - (v4 - x2)) then
      if (0 : Int32) = 0 then
        ah_run (kX0_seersAt g) f 5 [(0, .ref x0), (1, .int x1), (2, .int x2), (3, .int x3), (4, .int (x4 + 1))] [] h
      else
        (ah_ob h x0).bind fun o5 => (ah_sel [(0, aX0_isPaired g)] o5.1).bind fun F6 =>
        (ah_rI (F6 [.ref x0, .int x4] h)).bind fun z7 =>
        if (z7.1 : Int32) = 0 then
          (ah_ob z7.2 x0).bind fun o8 => (ah_sel [(0, aX0_mayPair g)] o8.1).bind fun F9 =>
          (ah_rI (F9 [.ref x0, .int x1, .int x4] z7.2)).bind fun z10 =>
          if (z10.1 : Int32) = 0 then
            ah_run (kX0_seersAt g) f 5 [(0, .ref x0), (1, .int x1), (2, .int x2), (3, .int x3), (4, .int (x4 + 1))] [] z10.2
          else
            ah_run (kX0_seersAt g) f 5 [(0, .ref x0), (1, .int x1), (2, .int x2), (3, .int (x3 + 1)), (4, .int (x4 + 1))] [] z10.2
        else
          ah_run (kX0_seersAt g) f 5 [(0, .ref x0), (1, .int x1), (2, .int x2), (3, .int x3), (4, .int (x4 + 1))] [] z7.2
    else
      if (1 : Int32) = 0 then
        ah_run (kX0_seersAt g) f 5 [(0, .ref x0), (1, .int x1), (2, .int x2), (3, .int x3), (4, .int (x4 + 1))] [] h
      else
        (ah_ob h x0).bind fun o11 => (ah_sel [(0, aX0_isPaired g)] o11.1).bind fun F12 =>
        (ah_rI (F12 [.ref x0, .int x4] h)).bind fun z13 =>
        if (z13.1 : Int32) = 0 then
          (ah_ob z13.2 x0).bind fun o14 => (ah_sel [(0, aX0_mayPair g)] o14.1).bind fun F15 =>
          (ah_rI (F15 [.ref x0, .int x1, .int x4] z13.2)).bind fun z16 =>
          if (z16.1 : Int32) = 0 then
            ah_run (kX0_seersAt g) f 5 [(0, .ref x0), (1, .int x1), (2, .int x2), (3, .int x3), (4, .int (x4 + 1))] [] z16.2
          else
            ah_run (kX0_seersAt g) f 5 [(0, .ref x0), (1, .int x1), (2, .int x2), (3, .int (x3 + 1)), (4, .int (x4 + 1))] [] z16.2
        else
          ah_run (kX0_seersAt g) f 5 [(0, .ref x0), (1, .int x1), (2, .int x2), (3, .int x3), (4, .int (x4 + 1))] [] z13.2
  else
    some (some (.int x3), h) := Eq.trans rfl rfl
set_option maxRecDepth 1000000 in
set_option maxHeartbeats 8000000 in
theorem eX0_spikeOf (g f : Nat) (a0 : Nat) (p1 : Int32) (h : ah_H) : ah_fun (kX0_spikeOf g) 6 (f + 1) [.ref a0, .int p1] h =
  ah_run (kX0_spikeOf g) f 7 [(0, .ref a0), (1, .int p1), (2, .int 0), (3, .int (-1)), (4, .int 0)] [] h := Eq.trans rfl rfl
set_option maxRecDepth 1000000 in
set_option maxHeartbeats 8000000 in
theorem rX0_spikeOf_7 (g f : Nat) (x0 : Nat) (x1 : Int32) (x2 : Int32) (x3 : Int32) (x4 : Int32) (h : ah_H) : ah_run (kX0_spikeOf g) (f + 1) 7 [(0, .ref x0), (1, .int x1), (2, .int x2), (3, .int x3), (4, .int x4)] [] h =
  if (x4 : Int32) < 6 then
    (ah_ob h x0).bind fun o1 => (ah_sel [(0, aX0_seersAt g)] o1.1).bind fun F2 =>
    (ah_rI (F2 [.ref x0, .int x1, .int x4] h)).bind fun z3 =>
    if (x3 : Int32) < z3.1 then
      ah_run (kX0_spikeOf g) f 7 [(0, .ref x0), (1, .int x1), (2, .int x4), (3, .int z3.1), (4, .int (x4 + 1))] [] z3.2
    else
      ah_run (kX0_spikeOf g) f 7 [(0, .ref x0), (1, .int x1), (2, .int x2), (3, .int x3), (4, .int (x4 + 1))] [] z3.2
  else
    some (some (.int x2), h) := Eq.trans rfl rfl
set_option maxRecDepth 1000000 in
set_option maxHeartbeats 8000000 in
theorem eX0_carryTo (g f : Nat) (a0 : Nat) (p1 : Int32) (p2 : Int32) (h : ah_H) : ah_fun (kX0_carryTo g) 4 (f + 1) [.ref a0, .int p1, .int p2] h =
  (ah_fr h a0 [0] 0).bind fun v1 =>
  (ah_lr h v1 2 p1).bind fun v2 =>
  (ah_fi h v2 [1, 3, 5, 8, 9] 2).bind fun v3 =>
  (ah_fr h a0 [0] 0).bind fun v4 =>
  (ah_lr h v4 2 p1).bind fun v5 =>
  (ah_sv h v5 [1, 3, 5, 8, 9] 2 (.int p2)).bind fun h6 =>
  (ah_fi h6 a0 [0] 3).bind fun v7 =>
  (ah_sv h6 a0 [0] 3 (.int (v7 + (if (0 : Int32) ≤ (v3 - p2) then (v3 - p2) else 0 - (v3 - p2))))).bind fun h8 =>
  some (some (.int (if (0 : Int32) ≤ (v3 - p2) then (v3 - p2) else 0 - (v3 - p2))), h8) := Eq.trans rfl rfl
set_option maxRecDepth 1000000 in
set_option maxHeartbeats 8000000 in
theorem eX0_canMeet (g f : Nat) (a0 : Nat) (p1 : Int32) (p2 : Int32) (h : ah_H) : ah_fun (kX0_canMeet g) 3 (f + 1) [.ref a0, .int p1, .int p2] h =
  (ah_ob h a0).bind fun o1 => (ah_sel [(0, aX0_isPaired g)] o1.1).bind fun F2 =>
  (ah_rI (F2 [.ref a0, .int p1] h)).bind fun z3 =>
  if (z3.1 : Int32) = 0 then
    (ah_ob z3.2 a0).bind fun o4 => (ah_sel [(0, aX0_isPaired g)] o4.1).bind fun F5 =>
    (ah_rI (F5 [.ref a0, .int p2] z3.2)).bind fun z6 =>
    if (z6.1 : Int32) = 0 then
      (ah_ob z6.2 a0).bind fun o7 => (ah_sel [(0, aX0_mayPair g)] o7.1).bind fun F8 =>
      (ah_rI (F8 [.ref a0, .int p1, .int p2] z6.2)).bind fun z9 =>
      if (z9.1 : Int32) = 0 then
        some (some (.int 0), z9.2)
      else
        (ah_fr z9.2 a0 [0] 0).bind fun v10 =>
        (ah_lr z9.2 v10 2 p1).bind fun v11 =>
        (ah_fi z9.2 v11 [1, 3, 5, 8, 9] 2).bind fun v12 =>
        (ah_fr z9.2 a0 [0] 0).bind fun v13 =>
        (ah_lr z9.2 v13 2 p2).bind fun v14 =>
        (ah_fi z9.2 v14 [1, 3, 5, 8, 9] 2).bind fun v15 =>
        if (v12 : Int32) = v15 then
          some (some (.int 1), z9.2)
        else
          some (some (.int 0), z9.2)
    else
      some (some (.int 0), z6.2)
  else
    some (some (.int 0), z3.2) := Eq.trans rfl rfl
set_option maxRecDepth 1000000 in
set_option maxHeartbeats 8000000 in
theorem eX0_pairUp (g f : Nat) (a0 : Nat) (p1 : Int32) (p2 : Int32) (h : ah_H) : ah_fun (kX0_pairUp g) 3 (f + 1) [.ref a0, .int p1, .int p2] h =
  (ah_fr h a0 [0] 0).bind fun v1 =>
  (ah_lr h v1 2 p1).bind fun v2 =>
  (ah_sv h v2 [1, 3, 5, 8, 9] 3 (.int p2)).bind fun h3 =>
  (ah_fr h3 a0 [0] 0).bind fun v4 =>
  (ah_lr h3 v4 2 p2).bind fun v5 =>
  (ah_sv h3 v5 [1, 3, 5, 8, 9] 3 (.int p1)).bind fun h6 =>
  some (none, h6) := Eq.trans rfl rfl
set_option maxRecDepth 1000000 in
set_option maxHeartbeats 8000000 in
theorem eX0_separate (g f : Nat) (a0 : Nat) (p1 : Int32) (h : ah_H) : ah_fun (kX0_separate g) 3 (f + 1) [.ref a0, .int p1] h =
  (ah_fr h a0 [0] 0).bind fun v1 =>
  (ah_lr h v1 2 p1).bind fun v2 =>
  (ah_fi h v2 [1, 3, 5, 8, 9] 3).bind fun v3 =>
  (ah_ob h a0).bind fun o4 => (ah_sel [(0, aX0_has g)] o4.1).bind fun F5 =>
  (ah_rI (F5 [.ref a0, .int v3] h)).bind fun z6 =>
  if (z6.1 : Int32) = 0 then
    (ah_fr z6.2 a0 [0] 0).bind fun v7 =>
    (ah_lr z6.2 v7 2 p1).bind fun v8 =>
    (ah_sv z6.2 v8 [1, 3, 5, 8, 9] 3 (.int (-1))).bind fun h9 =>
    some (none, h9)
  else
    (ah_fr z6.2 a0 [0] 0).bind fun v10 =>
    (ah_lr z6.2 v10 2 v3).bind fun v11 =>
    (ah_sv z6.2 v11 [1, 3, 5, 8, 9] 3 (.int (-1))).bind fun h12 =>
    (ah_fr h12 a0 [0] 0).bind fun v13 =>
    (ah_lr h12 v13 2 p1).bind fun v14 =>
    (ah_sv h12 v14 [1, 3, 5, 8, 9] 3 (.int (-1))).bind fun h15 =>
    some (none, h15) := Eq.trans rfl rfl
set_option maxRecDepth 1000000 in
set_option maxHeartbeats 8000000 in
theorem eX0_newMateOf (g f : Nat) (a0 : Nat) (p1 : Int32) (h : ah_H) : ah_fun (kX0_newMateOf g) 4 (f + 1) [.ref a0, .int p1] h =
  (ah_fr h a0 [0] 7).bind fun v1 =>
  (ah_li h v1 0 p1).bind fun v2 =>
  if (v2 : Int32) = (-1) then
    some (some (.int (-1)), h)
  else
    ah_run (kX0_newMateOf g) f 14 [(0, .ref a0), (1, .int p1), (2, .int 0)] [] h := Eq.trans rfl rfl
set_option maxRecDepth 1000000 in
set_option maxHeartbeats 8000000 in
theorem rX0_newMateOf_14 (g f : Nat) (x0 : Nat) (x1 : Int32) (x2 : Int32) (h : ah_H) : ah_run (kX0_newMateOf g) (f + 1) 14 [(0, .ref x0), (1, .int x1), (2, .int x2)] [] h =
  (ah_fi h x0 [0] 2).bind fun v1 =>
  if (x2 : Int32) < v1 then
    (ah_fr h x0 [0] 7).bind fun v2 =>
    (ah_li h v2 0 x2).bind fun v3 =>
    if (v3 : Int32) = (-1) then
      if (0 : Int32) = 0 then
        ah_run (kX0_newMateOf g) f 14 [(0, .ref x0), (1, .int x1), (2, .int (x2 + 1))] [] h
      else
        (ah_ob h x0).bind fun o4 => (ah_sel [(0, aX0_isPaired g)] o4.1).bind fun F5 =>
        (ah_rI (F5 [.ref x0, .int x2] h)).bind fun z6 =>
        if (z6.1 : Int32) = 0 then
          (ah_ob z6.2 x0).bind fun o7 => (ah_sel [(0, aX0_mayPair g)] o7.1).bind fun F8 =>
          (ah_rI (F8 [.ref x0, .int x1, .int x2] z6.2)).bind fun z9 =>
          if (z9.1 : Int32) = 0 then
            ah_run (kX0_newMateOf g) f 14 [(0, .ref x0), (1, .int x1), (2, .int (x2 + 1))] [] z9.2
          else
            some (some (.int x2), z9.2)
        else
          ah_run (kX0_newMateOf g) f 14 [(0, .ref x0), (1, .int x1), (2, .int (x2 + 1))] [] z6.2
    else
      (ah_fr h x0 [0] 7).bind fun v10 =>
      (ah_li h v10 0 x2).bind fun v11 =>
      if (v11 : Int32) = x1 then
        if (0 : Int32) = 0 then
          ah_run (kX0_newMateOf g) f 14 [(0, .ref x0), (1, .int x1), (2, .int (x2 + 1))] [] h
        else
          (ah_ob h x0).bind fun o12 => (ah_sel [(0, aX0_isPaired g)] o12.1).bind fun F13 =>
          (ah_rI (F13 [.ref x0, .int x2] h)).bind fun z14 =>
          if (z14.1 : Int32) = 0 then
            (ah_ob z14.2 x0).bind fun o15 => (ah_sel [(0, aX0_mayPair g)] o15.1).bind fun F16 =>
            (ah_rI (F16 [.ref x0, .int x1, .int x2] z14.2)).bind fun z17 =>
            if (z17.1 : Int32) = 0 then
              ah_run (kX0_newMateOf g) f 14 [(0, .ref x0), (1, .int x1), (2, .int (x2 + 1))] [] z17.2
            else
              some (some (.int x2), z17.2)
          else
            ah_run (kX0_newMateOf g) f 14 [(0, .ref x0), (1, .int x1), (2, .int (x2 + 1))] [] z14.2
      else
        if (1 : Int32) = 0 then
          ah_run (kX0_newMateOf g) f 14 [(0, .ref x0), (1, .int x1), (2, .int (x2 + 1))] [] h
        else
          (ah_ob h x0).bind fun o18 => (ah_sel [(0, aX0_isPaired g)] o18.1).bind fun F19 =>
          (ah_rI (F19 [.ref x0, .int x2] h)).bind fun z20 =>
          if (z20.1 : Int32) = 0 then
            (ah_ob z20.2 x0).bind fun o21 => (ah_sel [(0, aX0_mayPair g)] o21.1).bind fun F22 =>
            (ah_rI (F22 [.ref x0, .int x1, .int x2] z20.2)).bind fun z23 =>
            if (z23.1 : Int32) = 0 then
              ah_run (kX0_newMateOf g) f 14 [(0, .ref x0), (1, .int x1), (2, .int (x2 + 1))] [] z23.2
            else
              some (some (.int x2), z23.2)
          else
            ah_run (kX0_newMateOf g) f 14 [(0, .ref x0), (1, .int x1), (2, .int (x2 + 1))] [] z20.2
  else
    some (some (.int (-1)), h) := Eq.trans rfl rfl
set_option maxRecDepth 1000000 in
set_option maxHeartbeats 8000000 in
theorem eX0_swapMates (g f : Nat) (a0 : Nat) (h : ah_H) : ah_fun (kX0_swapMates g) 3 (f + 1) [.ref a0] h =
  ah_run (kX0_swapMates g) f 2 [(0, .ref a0), (1, .int 0)] [] h := Eq.trans rfl rfl
set_option maxRecDepth 1000000 in
set_option maxHeartbeats 8000000 in
theorem rX0_swapMates_2 (g f : Nat) (x0 : Nat) (x1 : Int32) (h : ah_H) : ah_run (kX0_swapMates g) (f + 1) 2 [(0, .ref x0), (1, .int x1)] [] h =
  (ah_fi h x0 [0] 2).bind fun v1 =>
  if (x1 : Int32) < v1 then
    (ah_fr h x0 [0] 7).bind fun v2 =>
    (ah_fr h x0 [0] 0).bind fun v3 =>
    (ah_lr h v3 2 x1).bind fun v4 =>
    (ah_fi h v4 [1, 3, 5, 8, 9] 3).bind fun v5 =>
    (ah_si h v2 0 x1 v5).bind fun h6 =>
    (ah_fr h6 x0 [0] 0).bind fun v7 =>
    (ah_lr h6 v7 2 x1).bind fun v8 =>
    (ah_sv h6 v8 [1, 3, 5, 8, 9] 3 (.int (-1))).bind fun h9 =>
    ah_run (kX0_swapMates g) f 2 [(0, .ref x0), (1, .int (x1 + 1))] [] h9
  else
    ah_run (kX0_swapMates g) f 43 [(0, .ref x0), (1, .int 0)] [] h := Eq.trans rfl rfl
set_option maxRecDepth 1000000 in
set_option maxHeartbeats 8000000 in
theorem rX0_swapMates_43 (g f : Nat) (x0 : Nat) (x1 : Int32) (h : ah_H) : ah_run (kX0_swapMates g) (f + 1) 43 [(0, .ref x0), (1, .int x1)] [] h =
  (ah_fi h x0 [0] 2).bind fun v1 =>
  if (x1 : Int32) < v1 then
    (ah_ob h x0).bind fun o2 => (ah_sel [(0, aX0_isPaired g)] o2.1).bind fun F3 =>
    (ah_rI (F3 [.ref x0, .int x1] h)).bind fun z4 =>
    if (z4.1 : Int32) = 0 then
      (ah_ob z4.2 x0).bind fun o5 => (ah_sel [(0, aX0_newMateOf g)] o5.1).bind fun F6 =>
      (ah_rI (F6 [.ref x0, .int x1] z4.2)).bind fun z7 =>
      if (z7.1 : Int32) = (-1) then
        ah_run (kX0_swapMates g) f 43 [(0, .ref x0), (1, .int (x1 + 1))] [] z7.2
      else
        (ah_ob z7.2 x0).bind fun o8 => (ah_sel [(0, aX0_pairUp g)] o8.1).bind fun F9 =>
        (ah_rV (F9 [.ref x0, .int x1, .int z7.1] z7.2)).bind fun z10 =>
        ah_run (kX0_swapMates g) f 43 [(0, .ref x0), (1, .int (x1 + 1))] [] z10
    else
      if ((-1) : Int32) = (-1) then
        ah_run (kX0_swapMates g) f 43 [(0, .ref x0), (1, .int (x1 + 1))] [] z4.2
      else
        (ah_ob z4.2 x0).bind fun o11 => (ah_sel [(0, aX0_pairUp g)] o11.1).bind fun F12 =>
        (ah_rV (F12 [.ref x0, .int x1, .int (-1)] z4.2)).bind fun z13 =>
        ah_run (kX0_swapMates g) f 43 [(0, .ref x0), (1, .int (x1 + 1))] [] z13
  else
    some (none, h) := Eq.trans rfl rfl
set_option maxRecDepth 1000000 in
set_option maxHeartbeats 8000000 in
theorem eX0_roundFrom (g f : Nat) (a0 : Nat) (p1 : Int32) (h : ah_H) : ah_fun (kX0_roundFrom g) 6 (f + 1) [.ref a0, .int p1] h =
  ah_run (kX0_roundFrom g) f 8 [(0, .ref a0), (1, .int p1), (2, .int 6), (3, .int (-1)), (4, .int 0)] [] h := Eq.trans rfl rfl
set_option maxRecDepth 1000000 in
set_option maxHeartbeats 8000000 in
theorem rX0_roundFrom_8 (g f : Nat) (x0 : Nat) (x1 : Int32) (x2 : Int32) (x3 : Int32) (x4 : Int32) (h : ah_H) : ah_run (kX0_roundFrom g) (f + 1) 8 [(0, .ref x0), (1, .int x1), (2, .int x2), (3, .int x3), (4, .int x4)] [] h =
  (ah_fi h x0 [0] 2).bind fun v1 =>
  if (x4 : Int32) < v1 then
    (ah_ob h x0).bind fun o2 => (ah_sel [(0, aX0_isPaired g)] o2.1).bind fun F3 =>
    (ah_rI (F3 [.ref x0, .int x4] h)).bind fun z4 =>
    if (z4.1 : Int32) = 0 then
      (ah_fr z4.2 x0 [0] 0).bind fun v5 =>
      (ah_lr z4.2 v5 2 x4).bind fun v6 =>
      (ah_fi z4.2 v6 [1, 3, 5, 8, 9] 2).bind fun v7 =>
      (ah_fr z4.2 x0 [0] 0).bind fun v8 =>
      (ah_lr z4.2 v8 2 x4).bind fun v9 =>
      (ah_fi z4.2 v9 [1, 3, 5, 8, 9] 2).bind fun v10 =>
      ah_run (kX0_roundFrom g) f 8 [(0, .ref x0), (1, .int x1), (2, .int (if (v7 : Int32) < x2 then v7 else x2)), (3, .int (if (x3 : Int32) < v10 then v10 else x3)), (4, .int (x4 + 1))] [] z4.2
    else
      ah_run (kX0_roundFrom g) f 8 [(0, .ref x0), (1, .int x1), (2, .int x2), (3, .int x3), (4, .int (x4 + 1))] [] z4.2
  else
    if (x3 : Int32) = (-1) then
      some (some (.int 0), h)
    else
      some (some (.int (((if (0 : Int32) < (x1 - x2) then (x1 - x2) else 0) + (if (0 : Int32) < (x3 - x1) then (x3 - x1) else 0)) + (if ((if (0 : Int32) < (x3 - x1) then (x3 - x1) else 0) : Int32) < (if (0 : Int32) < (x1 - x2) then (x1 - x2) else 0) then (if (0 : Int32) < (x3 - x1) then (x3 - x1) else 0) else (if (0 : Int32) < (x1 - x2) then (x1 - x2) else 0)))), h) := Eq.trans rfl rfl
set_option maxRecDepth 1000000 in
set_option maxHeartbeats 8000000 in
theorem eX0_pairs (g f : Nat) (a0 : Nat) (h : ah_H) : ah_fun (kX0_pairs g) 3 (f + 1) [.ref a0] h =
  ah_run (kX0_pairs g) f 4 [(0, .ref a0), (1, .int 0), (2, .int 0)] [] h := Eq.trans rfl rfl
set_option maxRecDepth 1000000 in
set_option maxHeartbeats 8000000 in
theorem rX0_pairs_4 (g f : Nat) (x0 : Nat) (x1 : Int32) (x2 : Int32) (h : ah_H) : ah_run (kX0_pairs g) (f + 1) 4 [(0, .ref x0), (1, .int x1), (2, .int x2)] [] h =
  (ah_fi h x0 [0] 2).bind fun v1 =>
  if (x2 : Int32) < v1 then
    (ah_fr h x0 [0] 0).bind fun v2 =>
    (ah_lr h v2 2 x2).bind fun v3 =>
    (ah_fi h v3 [1, 3, 5, 8, 9] 3).bind fun v4 =>
    if (x2 : Int32) < v4 then
      ah_run (kX0_pairs g) f 4 [(0, .ref x0), (1, .int (x1 + 1)), (2, .int (x2 + 1))] [] h
    else
      ah_run (kX0_pairs g) f 4 [(0, .ref x0), (1, .int x1), (2, .int (x2 + 1))] [] h
  else
    some (some (.int x1), h) := Eq.trans rfl rfl
set_option maxRecDepth 1000000 in
set_option maxHeartbeats 8000000 in
theorem eX0_likenessOfPairs (g f : Nat) (a0 : Nat) (h : ah_H) : ah_fun (kX0_likenessOfPairs g) 4 (f + 1) [.ref a0] h =
  ah_run (kX0_likenessOfPairs g) f 4 [(0, .ref a0), (1, .int 0), (2, .int 0)] [] h := Eq.trans rfl rfl
set_option maxRecDepth 1000000 in
set_option maxHeartbeats 8000000 in
theorem rX0_likenessOfPairs_4 (g f : Nat) (x0 : Nat) (x1 : Int32) (x2 : Int32) (h : ah_H) : ah_run (kX0_likenessOfPairs g) (f + 1) 4 [(0, .ref x0), (1, .int x1), (2, .int x2)] [] h =
  (ah_fi h x0 [0] 2).bind fun v1 =>
  if (x2 : Int32) < v1 then
    (ah_fr h x0 [0] 0).bind fun v2 =>
    (ah_lr h v2 2 x2).bind fun v3 =>
    (ah_fi h v3 [1, 3, 5, 8, 9] 3).bind fun v4 =>
    (ah_ob h x0).bind fun o5 => (ah_sel [(0, aX0_has g)] o5.1).bind fun F6 =>
    (ah_rI (F6 [.ref x0, .int v4] h)).bind fun z7 =>
    if (z7.1 : Int32) = 0 then
      ah_run (kX0_likenessOfPairs g) f 4 [(0, .ref x0), (1, .int x1), (2, .int (x2 + 1))] [] z7.2
    else
      if (x2 : Int32) < v4 then
        (ah_ob z7.2 x0).bind fun o8 => (ah_sel [(0, aX0_likenessOf g)] o8.1).bind fun F9 =>
        (ah_rI (F9 [.ref x0, .int x2, .int v4] z7.2)).bind fun z10 =>
        ah_run (kX0_likenessOfPairs g) f 4 [(0, .ref x0), (1, .int (x1 + z10.1)), (2, .int (x2 + 1))] [] z10.2
      else
        ah_run (kX0_likenessOfPairs g) f 4 [(0, .ref x0), (1, .int x1), (2, .int (x2 + 1))] [] z7.2
  else
    some (some (.int x1), h) := Eq.trans rfl rfl
set_option maxRecDepth 1000000 in
set_option maxHeartbeats 8000000 in
theorem eJ6_bitCount_0f7a4 (g f : Nat) (p1 : Int32) (h : ah_H) : ah_fun (kJ6_bitCount_0f7a4 g) 1 (f + 1) [.int p1] h =
  ah_run (kJ6_bitCount_0f7a4 g) f 10 [(0, .int (p1 - ((((p1 : Int32).toUInt32 >>> ((1 : Int32).toUInt32 &&& Int32.toUInt32 31)).toInt32) &&& 1431655765)))] [] h := Eq.trans rfl rfl
set_option maxRecDepth 1000000 in
set_option maxHeartbeats 8000000 in
theorem rJ6_bitCount_0f7a4_10 (g f : Nat) (x0 : Int32) (h : ah_H) : ah_run (kJ6_bitCount_0f7a4 g) (f + 1) 10 [(0, .int x0)] [] h =
  ah_run (kJ6_bitCount_0f7a4 g) f 24 [(0, .int ((x0 &&& 858993459) + ((((x0 : Int32).toUInt32 >>> ((2 : Int32).toUInt32 &&& Int32.toUInt32 31)).toInt32) &&& 858993459)))] [] h := Eq.trans rfl rfl
set_option maxRecDepth 1000000 in
set_option maxHeartbeats 8000000 in
theorem rJ6_bitCount_0f7a4_24 (g f : Nat) (x0 : Int32) (h : ah_H) : ah_run (kJ6_bitCount_0f7a4 g) (f + 1) 24 [(0, .int x0)] [] h =
  ah_run (kJ6_bitCount_0f7a4 g) f 34 [(0, .int ((x0 + (((x0 : Int32).toUInt32 >>> ((4 : Int32).toUInt32 &&& Int32.toUInt32 31)).toInt32)) &&& 252645135))] [] h := Eq.trans rfl rfl
set_option maxRecDepth 1000000 in
set_option maxHeartbeats 8000000 in
theorem rJ6_bitCount_0f7a4_34 (g f : Nat) (x0 : Int32) (h : ah_H) : ah_run (kJ6_bitCount_0f7a4 g) (f + 1) 34 [(0, .int x0)] [] h =
  ah_run (kJ6_bitCount_0f7a4 g) f 41 [(0, .int (x0 + (((x0 : Int32).toUInt32 >>> ((8 : Int32).toUInt32 &&& Int32.toUInt32 31)).toInt32)))] [] h := Eq.trans rfl rfl
set_option maxRecDepth 1000000 in
set_option maxHeartbeats 8000000 in
theorem rJ6_bitCount_0f7a4_41 (g f : Nat) (x0 : Int32) (h : ah_H) : ah_run (kJ6_bitCount_0f7a4 g) (f + 1) 41 [(0, .int x0)] [] h =
  ah_run (kJ6_bitCount_0f7a4 g) f 48 [(0, .int (x0 + (((x0 : Int32).toUInt32 >>> ((16 : Int32).toUInt32 &&& Int32.toUInt32 31)).toInt32)))] [] h := Eq.trans rfl rfl
set_option maxRecDepth 1000000 in
set_option maxHeartbeats 8000000 in
theorem rJ6_bitCount_0f7a4_48 (g f : Nat) (x0 : Int32) (h : ah_H) : ah_run (kJ6_bitCount_0f7a4 g) (f + 1) 48 [(0, .int x0)] [] h =
  some (some (.int (x0 &&& 63)), h) := Eq.trans rfl rfl
set_option maxRecDepth 1000000 in
set_option maxHeartbeats 8000000 in
theorem eX0_matches (g f : Nat) (a0 : Nat) (h : ah_H) : ah_fun (kX0_matches g) 3 (f + 1) [.ref a0] h =
  ah_run (kX0_matches g) f 4 [(0, .ref a0), (1, .int 0), (2, .int 0)] [] h := Eq.trans rfl rfl
set_option maxRecDepth 1000000 in
set_option maxHeartbeats 8000000 in
theorem rX0_matches_4 (g f : Nat) (x0 : Nat) (x1 : Int32) (x2 : Int32) (h : ah_H) : ah_run (kX0_matches g) (f + 1) 4 [(0, .ref x0), (1, .int x1), (2, .int x2)] [] h =
  (ah_fi h x0 [0] 2).bind fun v1 =>
  if (x2 : Int32) < v1 then
    (ah_ob h x0).bind fun o2 => (ah_sel [(0, aX0_matchesOf g)] o2.1).bind fun F3 =>
    (ah_rI (F3 [.ref x0, .int x2] h)).bind fun z4 =>
    (ah_rI (aJ6_bitCount_0f7a4 g [.int z4.1] z4.2)).bind fun z5 =>
    ah_run (kX0_matches g) f 4 [(0, .ref x0), (1, .int (x1 + z5.1)), (2, .int (x2 + 1))] [] z5.2
  else
    if (2 : Int32) = 0 then none else
    some (some (.int ((x1 : Int32) / 2)), h) := Eq.trans rfl rfl
set_option maxRecDepth 1000000 in
set_option maxHeartbeats 8000000 in
theorem eX0_matchesAlone (g f : Nat) (a0 : Nat) (h : ah_H) : ah_fun (kX0_matchesAlone g) 4 (f + 1) [.ref a0] h =
  ah_run (kX0_matchesAlone g) f 4 [(0, .ref a0), (1, .int 0), (2, .int 0)] [] h := Eq.trans rfl rfl
set_option maxRecDepth 1000000 in
set_option maxHeartbeats 8000000 in
theorem rX0_matchesAlone_4 (g f : Nat) (x0 : Nat) (x1 : Int32) (x2 : Int32) (h : ah_H) : ah_run (kX0_matchesAlone g) (f + 1) 4 [(0, .ref x0), (1, .int x1), (2, .int x2)] [] h =
  (ah_fi h x0 [0] 2).bind fun v1 =>
  if (x2 : Int32) < v1 then
    ah_run (kX0_matchesAlone g) f 16 [(0, .ref x0), (1, .int x1), (2, .int x2), (3, .int (x2 + 1))] [] h
  else
    some (some (.int x1), h) := Eq.trans rfl rfl
set_option maxRecDepth 1000000 in
set_option maxHeartbeats 8000000 in
theorem rX0_matchesAlone_16 (g f : Nat) (x0 : Nat) (x1 : Int32) (x2 : Int32) (x3 : Int32) (h : ah_H) : ah_run (kX0_matchesAlone g) (f + 1) 16 [(0, .ref x0), (1, .int x1), (2, .int x2), (3, .int x3)] [] h =
  (ah_fi h x0 [0] 2).bind fun v1 =>
  if (x3 : Int32) < v1 then
    (ah_ob h x0).bind fun o2 => (ah_sel [(0, aX0_isPaired g)] o2.1).bind fun F3 =>
    (ah_rI (F3 [.ref x0, .int x2] h)).bind fun z4 =>
    if (z4.1 : Int32) = 0 then
      (ah_ob z4.2 x0).bind fun o5 => (ah_sel [(0, aX0_isPaired g)] o5.1).bind fun F6 =>
      (ah_rI (F6 [.ref x0, .int x3] z4.2)).bind fun z7 =>
      if (z7.1 : Int32) = 0 then
        (ah_ob z7.2 x0).bind fun o8 => (ah_sel [(0, aX0_mayPair g)] o8.1).bind fun F9 =>
        (ah_rI (F9 [.ref x0, .int x2, .int x3] z7.2)).bind fun z10 =>
        if (z10.1 : Int32) = 0 then
          ah_run (kX0_matchesAlone g) f 16 [(0, .ref x0), (1, .int x1), (2, .int x2), (3, .int (x3 + 1))] [] z10.2
        else
          ah_run (kX0_matchesAlone g) f 16 [(0, .ref x0), (1, .int (x1 + 1)), (2, .int x2), (3, .int (x3 + 1))] [] z10.2
      else
        ah_run (kX0_matchesAlone g) f 16 [(0, .ref x0), (1, .int x1), (2, .int x2), (3, .int (x3 + 1))] [] z7.2
    else
      ah_run (kX0_matchesAlone g) f 16 [(0, .ref x0), (1, .int x1), (2, .int x2), (3, .int (x3 + 1))] [] z4.2
  else
    ah_run (kX0_matchesAlone g) f 4 [(0, .ref x0), (1, .int x1), (2, .int (x2 + 1))] [] h := Eq.trans rfl rfl
set_option maxRecDepth 1000000 in
set_option maxHeartbeats 8000000 in
theorem eX0_alone (g f : Nat) (a0 : Nat) (p1 : Int32) (h : ah_H) : ah_fun (kX0_alone g) 4 (f + 1) [.ref a0, .int p1] h =
  ah_run (kX0_alone g) f 4 [(0, .ref a0), (1, .int p1), (2, .int 0), (3, .int 0)] [] h := Eq.trans rfl rfl
set_option maxRecDepth 1000000 in
set_option maxHeartbeats 8000000 in
theorem rX0_alone_4 (g f : Nat) (x0 : Nat) (x1 : Int32) (x2 : Int32) (x3 : Int32) (h : ah_H) : ah_run (kX0_alone g) (f + 1) 4 [(0, .ref x0), (1, .int x1), (2, .int x2), (3, .int x3)] [] h =
  (ah_fi h x0 [0] 2).bind fun v1 =>
  if (x3 : Int32) < v1 then
    (ah_ob h x0).bind fun o2 => (ah_sel [(0, aX0_isPaired g)] o2.1).bind fun F3 =>
    (ah_rI (F3 [.ref x0, .int x3] h)).bind fun z4 =>
    if (z4.1 : Int32) = 0 then
      (ah_fr z4.2 x0 [0] 0).bind fun v5 =>
      (ah_lr z4.2 v5 2 x3).bind fun v6 =>
      (ah_fi z4.2 v6 [1, 3, 5, 8, 9] 0).bind fun v7 =>
      if (v7 : Int32) = x1 then
        ah_run (kX0_alone g) f 4 [(0, .ref x0), (1, .int x1), (2, .int (x2 + 1)), (3, .int (x3 + 1))] [] z4.2
      else
        ah_run (kX0_alone g) f 4 [(0, .ref x0), (1, .int x1), (2, .int x2), (3, .int (x3 + 1))] [] z4.2
    else
      ah_run (kX0_alone g) f 4 [(0, .ref x0), (1, .int x1), (2, .int x2), (3, .int (x3 + 1))] [] z4.2
  else
    some (some (.int x2), h) := Eq.trans rfl rfl
set_option maxRecDepth 1000000 in
set_option maxHeartbeats 8000000 in
theorem eX0_twosAlone (g f : Nat) (a0 : Nat) (h : ah_H) : ah_fun (kX0_twosAlone g) 2 (f + 1) [.ref a0] h =
  (ah_ob h a0).bind fun o1 => (ah_sel [(0, aX0_alone g)] o1.1).bind fun F2 =>
  (ah_rI (F2 [.ref a0, .int 0] h)).bind fun z3 =>
  (ah_ob z3.2 a0).bind fun o4 => (ah_sel [(0, aX0_alone g)] o4.1).bind fun F5 =>
  (ah_rI (F5 [.ref a0, .int 1] z3.2)).bind fun z6 =>
  if (2 : Int32) = 0 then none else
  some (some (.int ((((z3.1 + z6.1) * ((z3.1 + z6.1) - 1)) : Int32) / 2)), z6.2) := Eq.trans rfl rfl
set_option maxRecDepth 1000000 in
set_option maxHeartbeats 8000000 in
theorem eX1_kindNumber (g f : Nat) (a0 : Nat) (h : ah_H) : ah_fun (kX1_kindNumber g) 1 (f + 1) [.ref a0] h =
  some (some (.int 1), h) := Eq.trans rfl rfl
set_option maxRecDepth 1000000 in
set_option maxHeartbeats 8000000 in
theorem eX7_copyFrom (g f : Nat) (a0 : Nat) (p1 : Nat) (h : ah_H) : ah_fun (kX7_copyFrom g) 3 (f + 1) [.ref a0, .ref p1] h =
  (ah_fi h p1 [7] 0).bind fun v1 =>
  (ah_sv h a0 [7] 0 (.int v1)).bind fun h2 =>
  ah_run (kX7_copyFrom g) f 10 [(0, .ref a0), (1, .ref p1), (2, .int 0)] [] h2 := Eq.trans rfl rfl
set_option maxRecDepth 1000000 in
set_option maxHeartbeats 8000000 in
theorem rX7_copyFrom_10 (g f : Nat) (x0 : Nat) (x1 : Nat) (x2 : Int32) (h : ah_H) : ah_run (kX7_copyFrom g) (f + 1) 10 [(0, .ref x0), (1, .ref x1), (2, .int x2)] [] h =
  (ah_fi h x0 [7] 0).bind fun v1 =>
  if (x2 : Int32) < v1 then
    (ah_fr h x0 [7] 1).bind fun v2 =>
    (ah_fr h x1 [7] 1).bind fun v3 =>
    (ah_li h v3 0 x2).bind fun v4 =>
    (ah_si h v2 0 x2 v4).bind fun h5 =>
    (ah_fr h5 x0 [7] 2).bind fun v6 =>
    (ah_fr h5 x1 [7] 2).bind fun v7 =>
    (ah_li h5 v7 0 x2).bind fun v8 =>
    (ah_si h5 v6 0 x2 v8).bind fun h9 =>
    (ah_fr h9 x0 [7] 3).bind fun v10 =>
    (ah_fr h9 x1 [7] 3).bind fun v11 =>
    (ah_li h9 v11 0 x2).bind fun v12 =>
    (ah_si h9 v10 0 x2 v12).bind fun h13 =>
    ah_run (kX7_copyFrom g) f 10 [(0, .ref x0), (1, .ref x1), (2, .int (x2 + 1))] [] h13
  else
    some (none, h) := Eq.trans rfl rfl
set_option maxRecDepth 1000000 in
set_option maxHeartbeats 8000000 in
theorem eX2_keep (g f : Nat) (a0 : Nat) (p1 : Nat) (h : ah_H) : ah_fun (kX2_keep g) 3 (f + 1) [.ref a0, .ref p1] h =
  ah_run (kX2_keep g) f 2 [(0, .ref a0), (1, .ref p1), (2, .int 0)] [] h := Eq.trans rfl rfl
set_option maxRecDepth 1000000 in
set_option maxHeartbeats 8000000 in
theorem rX2_keep_2 (g f : Nat) (x0 : Nat) (x1 : Nat) (x2 : Int32) (h : ah_H) : ah_run (kX2_keep g) (f + 1) 2 [(0, .ref x0), (1, .ref x1), (2, .int x2)] [] h =
  (ah_fi h x1 [0] 2).bind fun v1 =>
  if (x2 : Int32) < v1 then
    (ah_fr h x0 [2] 1).bind fun v2 =>
    (ah_fr h x1 [0] 0).bind fun v3 =>
    (ah_lr h v3 2 x2).bind fun v4 =>
    (ah_fi h v4 [1, 3, 5, 8, 9] 1).bind fun v5 =>
    (ah_si h v2 0 x2 v5).bind fun h6 =>
    (ah_fr h6 x0 [2] 2).bind fun v7 =>
    (ah_fr h6 x1 [0] 0).bind fun v8 =>
    (ah_lr h6 v8 2 x2).bind fun v9 =>
    (ah_fi h6 v9 [1, 3, 5, 8, 9] 2).bind fun v10 =>
    (ah_si h6 v7 0 x2 v10).bind fun h11 =>
    (ah_fr h11 x0 [2] 3).bind fun v12 =>
    (ah_fr h11 x1 [0] 0).bind fun v13 =>
    (ah_lr h11 v13 2 x2).bind fun v14 =>
    (ah_fi h11 v14 [1, 3, 5, 8, 9] 3).bind fun v15 =>
    (ah_si h11 v12 0 x2 v15).bind fun h16 =>
    ah_run (kX2_keep g) f 2 [(0, .ref x0), (1, .ref x1), (2, .int (x2 + 1))] [] h16
  else
    (ah_fr h x0 [2] 4).bind fun v17 =>
    (ah_fr h x1 [0] 1).bind fun v18 =>
    (ah_ob h v17).bind fun o19 => (ah_sel [(7, aX7_copyFrom g)] o19.1).bind fun F20 =>
    (ah_rV (F20 [.ref v17, .ref v18] h)).bind fun z21 =>
    (ah_fi z21 x1 [0] 3).bind fun v22 =>
    (ah_sv z21 x0 [2] 5 (.int v22)).bind fun h23 =>
    (ah_fi h23 x1 [0] 4).bind fun v24 =>
    (ah_sv h23 x0 [2] 6 (.int v24)).bind fun h25 =>
    (ah_fi h25 x1 [0] 5).bind fun v26 =>
    (ah_sv h25 x0 [2] 7 (.int v26)).bind fun h27 =>
    (ah_fi h27 x1 [0] 6).bind fun v28 =>
    (ah_sv h27 x0 [2] 8 (.int v28)).bind fun h29 =>
    if (1 : Int32) = 0 ∨ (1 : Int32) = 1 then
    (ah_sv h29 x0 [2] 0 (.int 1)).bind fun h30 =>
    some (none, h30)
    else none := Eq.trans rfl rfl
set_option maxRecDepth 1000000 in
set_option maxHeartbeats 8000000 in
theorem eX2_giveBack (g f : Nat) (a0 : Nat) (p1 : Nat) (h : ah_H) : ah_fun (kX2_giveBack g) 3 (f + 1) [.ref a0, .ref p1] h =
  ah_run (kX2_giveBack g) f 2 [(0, .ref a0), (1, .ref p1), (2, .int 0)] [] h := Eq.trans rfl rfl
set_option maxRecDepth 1000000 in
set_option maxHeartbeats 8000000 in
theorem rX2_giveBack_2 (g f : Nat) (x0 : Nat) (x1 : Nat) (x2 : Int32) (h : ah_H) : ah_run (kX2_giveBack g) (f + 1) 2 [(0, .ref x0), (1, .ref x1), (2, .int x2)] [] h =
  (ah_fi h x1 [0] 2).bind fun v1 =>
  if (x2 : Int32) < v1 then
    (ah_fr h x1 [0] 0).bind fun v2 =>
    (ah_lr h v2 2 x2).bind fun v3 =>
    (ah_fr h x0 [2] 1).bind fun v4 =>
    (ah_li h v4 0 x2).bind fun v5 =>
    (ah_sv h v3 [1, 3, 5, 8, 9] 1 (.int v5)).bind fun h6 =>
    (ah_fr h6 x1 [0] 0).bind fun v7 =>
    (ah_lr h6 v7 2 x2).bind fun v8 =>
    (ah_fr h6 x0 [2] 2).bind fun v9 =>
    (ah_li h6 v9 0 x2).bind fun v10 =>
    (ah_sv h6 v8 [1, 3, 5, 8, 9] 2 (.int v10)).bind fun h11 =>
    (ah_fr h11 x1 [0] 0).bind fun v12 =>
    (ah_lr h11 v12 2 x2).bind fun v13 =>
    (ah_fr h11 x0 [2] 3).bind fun v14 =>
    (ah_li h11 v14 0 x2).bind fun v15 =>
    (ah_sv h11 v13 [1, 3, 5, 8, 9] 3 (.int v15)).bind fun h16 =>
    ah_run (kX2_giveBack g) f 2 [(0, .ref x0), (1, .ref x1), (2, .int (x2 + 1))] [] h16
  else
    (ah_fr h x1 [0] 1).bind fun v17 =>
    (ah_fr h x0 [2] 4).bind fun v18 =>
    (ah_ob h v17).bind fun o19 => (ah_sel [(7, aX7_copyFrom g)] o19.1).bind fun F20 =>
    (ah_rV (F20 [.ref v17, .ref v18] h)).bind fun z21 =>
    (ah_fi z21 x0 [2] 5).bind fun v22 =>
    (ah_sv z21 x1 [0] 3 (.int v22)).bind fun h23 =>
    (ah_fi h23 x0 [2] 6).bind fun v24 =>
    (ah_sv h23 x1 [0] 4 (.int v24)).bind fun h25 =>
    (ah_fi h25 x0 [2] 7).bind fun v26 =>
    (ah_sv h25 x1 [0] 5 (.int v26)).bind fun h27 =>
    (ah_fi h27 x0 [2] 8).bind fun v28 =>
    (ah_sv h27 x1 [0] 6 (.int v28)).bind fun h29 =>
    some (none, h29) := Eq.trans rfl rfl
set_option maxRecDepth 1000000 in
set_option maxHeartbeats 8000000 in
theorem eX3_kindNumber (g f : Nat) (a0 : Nat) (h : ah_H) : ah_fun (kX3_kindNumber g) 1 (f + 1) [.ref a0] h =
  some (some (.int 4), h) := Eq.trans rfl rfl
set_option maxRecDepth 1000000 in
set_option maxHeartbeats 8000000 in
theorem eX4_write (g f : Nat) (a0 : Nat) (p1 : Int32) (h : ah_H) : ah_fun (kX4_write g) 2 (f + 1) [.ref a0, .int p1] h =
  (ah_fi h a0 [4] 1).bind fun v1 =>
  if (v1 : Int32) < 36 then
    (ah_fr h a0 [4] 0).bind fun v2 =>
    (ah_fi h a0 [4] 1).bind fun v3 =>
    (ah_si h v2 0 v3 p1).bind fun h4 =>
    (ah_fi h4 a0 [4] 1).bind fun v5 =>
    (ah_sv h4 a0 [4] 1 (.int (v5 + 1))).bind fun h6 =>
    some (some (.int 1), h6)
  else
    some (some (.int 0), h) := Eq.trans rfl rfl
set_option maxRecDepth 1000000 in
set_option maxHeartbeats 8000000 in
theorem eX4_clear (g f : Nat) (a0 : Nat) (h : ah_H) : ah_fun (kX4_clear g) 1 (f + 1) [.ref a0] h =
  (ah_sv h a0 [4] 1 (.int 0)).bind fun h1 =>
  some (none, h1) := Eq.trans rfl rfl
set_option maxRecDepth 1000000 in
set_option maxHeartbeats 8000000 in
theorem eX4_mayStandAt (g f : Nat) (p1 : Int32) (p2 : Int32) (h : ah_H) : ah_fun (kX4_mayStandAt g) 2 (f + 1) [.int p1, .int p2] h =
  if (p1 : Int32) < 34 then
    if (5 : Int32) = 0 then none else
    if (((p1 : Int32) - p1 / 5 * 5) : Int32) = 0 then
      if ((ah_ix (((p2 : Int32).toUInt32 % 65536).toInt32)) : Int32) < 0 then
        some (some (.int 0), h)
      else
        some (some (.int 1), h)
    else if (((p1 : Int32) - p1 / 5 * 5) : Int32) = 1 then
      if (p2 : Int32) < 48 then
        some (some (.int 0), h)
      else
        if (49 : Int32) < p2 then
          some (some (.int 0), h)
        else
          some (some (.int 1), h)
    else if (((p1 : Int32) - p1 / 5 * 5) : Int32) = 2 then
      if (p2 : Int32) < 48 then
        some (some (.int 0), h)
      else
        if (p2 : Int32) < 58 then
          some (some (.int 1), h)
        else
          some (some (.int 0), h)
    else if (((p1 : Int32) - p1 / 5 * 5) : Int32) = 3 then
      if (p2 : Int32) < 48 then
        some (some (.int 0), h)
      else
        if (p2 : Int32) < 54 then
          some (some (.int 1), h)
        else
          some (some (.int 0), h)
    else 
      if (p2 : Int32) = 44 then
        some (some (.int 1), h)
      else
        some (some (.int 0), h)
  else
    some (some (.int 0), h) := Eq.trans rfl rfl
set_option maxRecDepth 1000000 in
set_option maxHeartbeats 8000000 in
theorem eX4_firstFault (g f : Nat) (a0 : Nat) (h : ah_H) : ah_fun (kX4_firstFault g) 2 (f + 1) [.ref a0] h =
  ah_run (kX4_firstFault g) f 2 [(0, .ref a0), (1, .int 0)] [] h := Eq.trans rfl rfl
set_option maxRecDepth 1000000 in
set_option maxHeartbeats 8000000 in
theorem rX4_firstFault_2 (g f : Nat) (x0 : Nat) (x1 : Int32) (h : ah_H) : ah_run (kX4_firstFault g) (f + 1) 2 [(0, .ref x0), (1, .int x1)] [] h =
  (ah_fi h x0 [4] 1).bind fun v1 =>
  if (x1 : Int32) < v1 then
    (ah_fr h x0 [4] 0).bind fun v2 =>
    (ah_li h v2 0 x1).bind fun v3 =>
    (ah_rI (aX4_mayStandAt g [.int x1, .int v3] h)).bind fun z4 =>
    if (z4.1 : Int32) = 0 then
      some (some (.int x1), z4.2)
    else
      ah_run (kX4_firstFault g) f 2 [(0, .ref x0), (1, .int (x1 + 1))] [] z4.2
  else
    (ah_fi h x0 [4] 1).bind fun v5 =>
    some (some (.int v5), h) := Eq.trans rfl rfl
set_option maxRecDepth 1000000 in
set_option maxHeartbeats 8000000 in
theorem eX4_isDrawer (g f : Nat) (a0 : Nat) (h : ah_H) : ah_fun (kX4_isDrawer g) 1 (f + 1) [.ref a0] h =
  (ah_fi h a0 [4] 1).bind fun v1 =>
  if (v1 : Int32) < 9 then
    some (some (.int 0), h)
  else
    (ah_fi h a0 [4] 1).bind fun v2 =>
    if (5 : Int32) = 0 then none else
    if (((v2 : Int32) - v2 / 5 * 5) : Int32) = 4 then
      (ah_ob h a0).bind fun o3 => (ah_sel [(4, aX4_firstFault g)] o3.1).bind fun F4 =>
      (ah_rI (F4 [.ref a0] h)).bind fun z5 =>
      (ah_fi z5.2 a0 [4] 1).bind fun v6 =>
      if (z5.1 : Int32) = v6 then
        some (some (.int 1), z5.2)
      else
        some (some (.int 0), z5.2)
    else
      some (some (.int 0), h) := Eq.trans rfl rfl
set_option maxRecDepth 1000000 in
set_option maxHeartbeats 8000000 in
theorem eX4_singles (g f : Nat) (a0 : Nat) (h : ah_H) : ah_fun (kX4_singles g) 1 (f + 1) [.ref a0] h =
  (ah_fi h a0 [4] 1).bind fun v1 =>
  if (5 : Int32) = 0 then none else
  some (some (.int (((v1 + 1) : Int32) / 5)), h) := Eq.trans rfl rfl
set_option maxRecDepth 1000000 in
set_option maxHeartbeats 8000000 in
theorem eX5_kindNumber (g f : Nat) (a0 : Nat) (h : ah_H) : ah_fun (kX5_kindNumber g) 1 (f + 1) [.ref a0] h =
  some (some (.int 3), h) := Eq.trans rfl rfl
set_option maxRecDepth 1000000 in
set_option maxHeartbeats 8000000 in
theorem eX6_mateOf (g f : Nat) (a0 : Nat) (p1 : Int32) (h : ah_H) : ah_fun (kX6_mateOf g) 2 (f + 1) [.ref a0, .int p1] h =
  if (p1 : Int32) < 0 then
    some (some (.int (-1)), h)
  else
    if (p1 : Int32) < 7 then
      (ah_fr h a0 [6] 4).bind fun v1 =>
      (ah_li h v1 0 p1).bind fun v2 =>
      some (some (.int v2), h)
    else
      some (some (.int (-1)), h) := Eq.trans rfl rfl
set_option maxRecDepth 1000000 in
set_option maxHeartbeats 8000000 in
theorem eJ7_fill_53178 (g f : Nat) (p1 : Nat) (p2 : Int32) (h : ah_H) : ah_fun (kJ7_fill_53178 g) 4 (f + 1) [.ref p1, .int p2] h =
  (ah_ai h p1 0).bind fun w1 =>
  ah_run (kJ7_fill_53178 g) f 5 [(0, .ref p1), (1, .int p2), (2, .int 0), (3, .int (Int32.ofNat w1.1))] [] h := Eq.trans rfl rfl
set_option maxRecDepth 1000000 in
set_option maxHeartbeats 8000000 in
theorem rJ7_fill_53178_5 (g f : Nat) (x0 : Nat) (x1 : Int32) (x2 : Int32) (x3 : Int32) (h : ah_H) : ah_run (kJ7_fill_53178 g) (f + 1) 5 [(0, .ref x0), (1, .int x1), (2, .int x2), (3, .int x3)] [] h =
  if (x2 : Int32) < x3 then
    (ah_si h x0 0 x2 x1).bind fun h1 =>
    ah_run (kJ7_fill_53178 g) f 5 [(0, .ref x0), (1, .int x1), (2, .int (x2 + 1)), (3, .int x3)] [] h1
  else
    some (none, h) := Eq.trans rfl rfl
set_option maxRecDepth 1000000 in
set_option maxHeartbeats 8000000 in
theorem eX6_learn (g f : Nat) (a0 : Nat) (p1 : Nat) (h : ah_H) : ah_fun (kX6_learn g) 5 (f + 1) [.ref a0, .ref p1] h =
  (ah_fi h p1 [0] 2).bind fun v1 =>
  (ah_sv h a0 [6] 8 (.int v1)).bind fun h2 =>
  ah_run (kX6_learn g) f 10 [(0, .ref a0), (1, .ref p1), (2, .int 0)] [] h2 := Eq.trans rfl rfl
set_option maxRecDepth 1000000 in
set_option maxHeartbeats 8000000 in
theorem rX6_learn_10 (g f : Nat) (x0 : Nat) (x1 : Nat) (x2 : Int32) (h : ah_H) : ah_run (kX6_learn g) (f + 1) 10 [(0, .ref x0), (1, .ref x1), (2, .int x2)] [] h =
  (ah_fi h x0 [6] 8).bind fun v1 =>
  if (x2 : Int32) < v1 then
    (ah_fr h x0 [6] 7).bind fun v2 =>
    (ah_fr h x1 [0] 0).bind fun v3 =>
    (ah_lr h v3 2 x2).bind fun v4 =>
    (ah_fi h v4 [1, 3, 5, 8, 9] 2).bind fun v5 =>
    (ah_si h v2 0 x2 v5).bind fun h6 =>
    ah_run (kX6_learn g) f 35 [(0, .ref x0), (1, .ref x1), (2, .int x2), (3, .int 0)] [] h6
  else
    some (none, h) := Eq.trans rfl rfl
set_option maxRecDepth 1000000 in
set_option maxHeartbeats 8000000 in
theorem rX6_learn_35 (g f : Nat) (x0 : Nat) (x1 : Nat) (x2 : Int32) (x3 : Int32) (h : ah_H) : ah_run (kX6_learn g) (f + 1) 35 [(0, .ref x0), (1, .ref x1), (2, .int x2), (3, .int x3)] [] h =
  (ah_fi h x0 [6] 8).bind fun v1 =>
  if (x3 : Int32) < v1 then
    (ah_ob h x1).bind fun o2 => (ah_sel [(0, aX0_isPaired g)] o2.1).bind fun F3 =>
    (ah_rI (F3 [.ref x1, .int x2] h)).bind fun z4 =>
    if (z4.1 : Int32) = 0 then
      (ah_ob z4.2 x1).bind fun o5 => (ah_sel [(0, aX0_isPaired g)] o5.1).bind fun F6 =>
      (ah_rI (F6 [.ref x1, .int x3] z4.2)).bind fun z7 =>
      if (z7.1 : Int32) = 0 then
        (ah_fr z7.2 x0 [6] 6).bind fun v8 =>
        (ah_lr z7.2 v8 3 x2).bind fun v9 =>
        if (0 : Int32) = 0 then
          (ah_ob z7.2 x1).bind fun o10 => (ah_sel [(0, aX0_likenessOf g)] o10.1).bind fun F11 =>
          (ah_rI (F11 [.ref x1, .int x2, .int x3] z7.2)).bind fun z12 =>
          (ah_si z12.2 v9 0 x3 z12.1).bind fun h13 =>
          ah_run (kX6_learn g) f 35 [(0, .ref x0), (1, .ref x1), (2, .int x2), (3, .int (x3 + 1))] [] h13
        else
          (ah_si z7.2 v9 0 x3 (-1)).bind fun h14 =>
          ah_run (kX6_learn g) f 35 [(0, .ref x0), (1, .ref x1), (2, .int x2), (3, .int (x3 + 1))] [] h14
      else
        (ah_fr z7.2 x0 [6] 6).bind fun v15 =>
        (ah_lr z7.2 v15 3 x2).bind fun v16 =>
        if (1 : Int32) = 0 then
          (ah_ob z7.2 x1).bind fun o17 => (ah_sel [(0, aX0_likenessOf g)] o17.1).bind fun F18 =>
          (ah_rI (F18 [.ref x1, .int x2, .int x3] z7.2)).bind fun z19 =>
          (ah_si z19.2 v16 0 x3 z19.1).bind fun h20 =>
          ah_run (kX6_learn g) f 35 [(0, .ref x0), (1, .ref x1), (2, .int x2), (3, .int (x3 + 1))] [] h20
        else
          (ah_si z7.2 v16 0 x3 (-1)).bind fun h21 =>
          ah_run (kX6_learn g) f 35 [(0, .ref x0), (1, .ref x1), (2, .int x2), (3, .int (x3 + 1))] [] h21
    else
      (ah_fr z4.2 x0 [6] 6).bind fun v22 =>
      (ah_lr z4.2 v22 3 x2).bind fun v23 =>
      if (1 : Int32) = 0 then
        (ah_ob z4.2 x1).bind fun o24 => (ah_sel [(0, aX0_likenessOf g)] o24.1).bind fun F25 =>
        (ah_rI (F25 [.ref x1, .int x2, .int x3] z4.2)).bind fun z26 =>
        (ah_si z26.2 v23 0 x3 z26.1).bind fun h27 =>
        ah_run (kX6_learn g) f 35 [(0, .ref x0), (1, .ref x1), (2, .int x2), (3, .int (x3 + 1))] [] h27
      else
        (ah_si z4.2 v23 0 x3 (-1)).bind fun h28 =>
        ah_run (kX6_learn g) f 35 [(0, .ref x0), (1, .ref x1), (2, .int x2), (3, .int (x3 + 1))] [] h28
  else
    ah_run (kX6_learn g) f 10 [(0, .ref x0), (1, .ref x1), (2, .int (x2 + 1))] [] h := Eq.trans rfl rfl
set_option maxRecDepth 1000000 in
set_option maxHeartbeats 8000000 in
theorem eX6_wouldLeaveFor (g f : Nat) (a0 : Nat) (p1 : Int32) (p2 : Int32) (h : ah_H) : ah_fun (kX6_wouldLeaveFor g) 5 (f + 1) [.ref a0, .int p1, .int p2] h =
  (ah_fr h a0 [6] 5).bind fun v1 =>
  (ah_li h v1 0 p1).bind fun v2 =>
  if (v2 : Int32) < 0 then
    some (some (.int 1), h)
  else
    (ah_fi h a0 [6] 8).bind fun v3 =>
    if (v2 : Int32) < v3 then
      (ah_fr h a0 [6] 6).bind fun v4 =>
      (ah_lr h v4 3 p1).bind fun v5 =>
      (ah_li h v5 0 p2).bind fun v6 =>
      (ah_fr h a0 [6] 6).bind fun v7 =>
      (ah_lr h v7 3 p1).bind fun v8 =>
      (ah_li h v8 0 v2).bind fun v9 =>
      if (0 : Int32) < (v6 - v9) then
        some (some (.int 1), h)
      else
        if ((v6 - v9) : Int32) = 0 then
          if (p2 : Int32) < v2 then
            some (some (.int 1), h)
          else
            some (some (.int 0), h)
        else
          some (some (.int 0), h)
    else
      some (some (.int 1), h) := Eq.trans rfl rfl
set_option maxRecDepth 1000000 in
set_option maxHeartbeats 8000000 in
theorem eX6_isBlocked (g f : Nat) (a0 : Nat) (h : ah_H) : ah_fun (kX6_isBlocked g) 3 (f + 1) [.ref a0] h =
  ah_run (kX6_isBlocked g) f 2 [(0, .ref a0), (1, .int 0)] [] h := Eq.trans rfl rfl
set_option maxRecDepth 1000000 in
set_option maxHeartbeats 8000000 in
theorem rX6_isBlocked_2 (g f : Nat) (x0 : Nat) (x1 : Int32) (h : ah_H) : ah_run (kX6_isBlocked g) (f + 1) 2 [(0, .ref x0), (1, .int x1)] [] h =
  (ah_fi h x0 [6] 8).bind fun v1 =>
  if (x1 : Int32) < v1 then
    ah_run (kX6_isBlocked g) f 14 [(0, .ref x0), (1, .int x1), (2, .int (x1 + 1))] [] h
  else
    some (some (.int 0), h) := Eq.trans rfl rfl
set_option maxRecDepth 1000000 in
set_option maxHeartbeats 8000000 in
theorem rX6_isBlocked_14 (g f : Nat) (x0 : Nat) (x1 : Int32) (x2 : Int32) (h : ah_H) : ah_run (kX6_isBlocked g) (f + 1) 14 [(0, .ref x0), (1, .int x1), (2, .int x2)] [] h =
  (ah_fi h x0 [6] 8).bind fun v1 =>
  if (x2 : Int32) < v1 then
    (ah_fr h x0 [6] 6).bind fun v2 =>
    (ah_lr h v2 3 x1).bind fun v3 =>
    (ah_li h v3 0 x2).bind fun v4 =>
    if (v4 : Int32) = (-1) then
      ah_run (kX6_isBlocked g) f 14 [(0, .ref x0), (1, .int x1), (2, .int (x2 + 1))] [] h
    else
      (ah_fr h x0 [6] 5).bind fun v5 =>
      (ah_li h v5 0 x1).bind fun v6 =>
      if (v6 : Int32) = x2 then
        ah_run (kX6_isBlocked g) f 14 [(0, .ref x0), (1, .int x1), (2, .int (x2 + 1))] [] h
      else
        (ah_ob h x0).bind fun o7 => (ah_sel [(6, aX6_wouldLeaveFor g)] o7.1).bind fun F8 =>
        (ah_rI (F8 [.ref x0, .int x1, .int x2] h)).bind fun z9 =>
        if (z9.1 : Int32) = 0 then
          ah_run (kX6_isBlocked g) f 14 [(0, .ref x0), (1, .int x1), (2, .int (x2 + 1))] [] z9.2
        else
          (ah_ob z9.2 x0).bind fun o10 => (ah_sel [(6, aX6_wouldLeaveFor g)] o10.1).bind fun F11 =>
          (ah_rI (F11 [.ref x0, .int x2, .int x1] z9.2)).bind fun z12 =>
          if (z12.1 : Int32) = 0 then
            ah_run (kX6_isBlocked g) f 14 [(0, .ref x0), (1, .int x1), (2, .int (x2 + 1))] [] z12.2
          else
            some (some (.int 1), z12.2)
  else
    ah_run (kX6_isBlocked g) f 2 [(0, .ref x0), (1, .int (x1 + 1))] [] h := Eq.trans rfl rfl
set_option maxRecDepth 1000000 in
set_option maxHeartbeats 8000000 in
theorem eX6_rankOf (g f : Nat) (a0 : Nat) (p1 : Int32) (p2 : Int32) (p3 : Int32) (h : ah_H) : ah_fun (kX6_rankOf g) 4 (f + 1) [.ref a0, .int p1, .int p2, .int p3] h =
  (ah_fi h a0 [6] 9).bind fun v1 =>
  if (v1 : Int32) = 0 then
    some (some (.int ((p1 * 1000) + p2)), h)
  else if (v1 : Int32) = 1 then
    some (some (.int ((p2 * 1000) - p3)), h)
  else 
    some (some (.int 0), h) := Eq.trans rfl rfl
set_option maxRecDepth 1000000 in
set_option maxHeartbeats 8000000 in
theorem eX6_judge (g f : Nat) (a0 : Nat) (p1 : Int32) (p2 : Int32) (p3 : Int32) (h : ah_H) : ah_fun (kX6_judge g) 5 (f + 1) [.ref a0, .int p1, .int p2, .int p3] h =
  (ah_fi h a0 [6] 9).bind fun v1 =>
  if (v1 : Int32) = 2 then
    (ah_ob h a0).bind fun o2 => (ah_sel [(6, aX6_isBlocked g)] o2.1).bind fun F3 =>
    (ah_rI (F3 [.ref a0] h)).bind fun z4 =>
    if (z4.1 : Int32) = 0 then
      (ah_fi z4.2 a0 [6] 0).bind fun v5 =>
      (ah_sv z4.2 a0 [6] 0 (.int (v5 + 1))).bind fun h6 =>
      (ah_ob h6 a0).bind fun o7 => (ah_sel [(6, aX6_rankOf g)] o7.1).bind fun F8 =>
      (ah_rI (F8 [.ref a0, .int p1, .int p2, .int p3] h6)).bind fun z9 =>
      (ah_fi z9.2 a0 [6] 0).bind fun v10 =>
      if (v10 : Int32) = 1 then
        (ah_sv z9.2 a0 [6] 11 (.int z9.1)).bind fun h11 =>
        (ah_sv h11 a0 [6] 1 (.int p1)).bind fun h12 =>
        (ah_sv h12 a0 [6] 2 (.int p2)).bind fun h13 =>
        (ah_sv h13 a0 [6] 3 (.int p3)).bind fun h14 =>
        (ah_fr h14 a0 [6] 5).bind fun v15 =>
        (ah_fr h14 a0 [6] 4).bind fun v16 =>
        (ah_cp h14 v15 0 v16 0 7).bind fun h17 =>
        some (none, h17)
      else
        (ah_fi z9.2 a0 [6] 11).bind fun v18 =>
        if (v18 : Int32) < z9.1 then
          (ah_sv z9.2 a0 [6] 11 (.int z9.1)).bind fun h19 =>
          (ah_sv h19 a0 [6] 1 (.int p1)).bind fun h20 =>
          (ah_sv h20 a0 [6] 2 (.int p2)).bind fun h21 =>
          (ah_sv h21 a0 [6] 3 (.int p3)).bind fun h22 =>
          (ah_fr h22 a0 [6] 5).bind fun v23 =>
          (ah_fr h22 a0 [6] 4).bind fun v24 =>
          (ah_cp h22 v23 0 v24 0 7).bind fun h25 =>
          some (none, h25)
        else
          some (none, z9.2)
    else
      some (none, z4.2)
  else
    (ah_fi h a0 [6] 0).bind fun v26 =>
    (ah_sv h a0 [6] 0 (.int (v26 + 1))).bind fun h27 =>
    (ah_ob h27 a0).bind fun o28 => (ah_sel [(6, aX6_rankOf g)] o28.1).bind fun F29 =>
    (ah_rI (F29 [.ref a0, .int p1, .int p2, .int p3] h27)).bind fun z30 =>
    (ah_fi z30.2 a0 [6] 0).bind fun v31 =>
    if (v31 : Int32) = 1 then
      (ah_sv z30.2 a0 [6] 11 (.int z30.1)).bind fun h32 =>
      (ah_sv h32 a0 [6] 1 (.int p1)).bind fun h33 =>
      (ah_sv h33 a0 [6] 2 (.int p2)).bind fun h34 =>
      (ah_sv h34 a0 [6] 3 (.int p3)).bind fun h35 =>
      (ah_fr h35 a0 [6] 5).bind fun v36 =>
      (ah_fr h35 a0 [6] 4).bind fun v37 =>
      (ah_cp h35 v36 0 v37 0 7).bind fun h38 =>
      some (none, h38)
    else
      (ah_fi z30.2 a0 [6] 11).bind fun v39 =>
      if (v39 : Int32) < z30.1 then
        (ah_sv z30.2 a0 [6] 11 (.int z30.1)).bind fun h40 =>
        (ah_sv h40 a0 [6] 1 (.int p1)).bind fun h41 =>
        (ah_sv h41 a0 [6] 2 (.int p2)).bind fun h42 =>
        (ah_sv h42 a0 [6] 3 (.int p3)).bind fun h43 =>
        (ah_fr h43 a0 [6] 5).bind fun v44 =>
        (ah_fr h43 a0 [6] 4).bind fun v45 =>
        (ah_cp h43 v44 0 v45 0 7).bind fun h46 =>
        some (none, h46)
      else
        some (none, z30.2) := Eq.trans rfl rfl
set_option maxRecDepth 1000000 in
set_option maxHeartbeats 8000000 in
theorem eX6_place (rec : ah_F) (g f : Nat) (a0 : Nat) (p1 : Int32) (p2 : Int32) (p3 : Int32) (p4 : Int32) (h : ah_H) : ah_fun (kX6_place rec g) 7 (f + 1) [.ref a0, .int p1, .int p2, .int p3, .int p4] h =
  (ah_fi h a0 [6] 10).bind fun v1 =>
  if (v1 : Int32) < p4 then
    some (none, h)
  else
    (ah_fi h a0 [6] 8).bind fun v2 =>
    if (p1 : Int32) < v2 then
      (ah_ob h a0).bind fun o3 => (ah_sel [(6, rec)] o3.1).bind fun F4 =>
      (ah_rV (F4 [.ref a0, .int (p1 + 1), .int p2, .int p3, .int p4] h)).bind fun z5 =>
      (ah_fr z5 a0 [6] 5).bind fun v6 =>
      (ah_li z5 v6 0 p1).bind fun v7 =>
      if (v7 : Int32) = (-1) then
        ah_run (kX6_place rec g) f 54 [(0, .ref a0), (1, .int p1), (2, .int p2), (3, .int p3), (4, .int p4), (5, .int (p1 + 1))] [] z5
      else
        some (none, z5)
    else
      (ah_ob h a0).bind fun o8 => (ah_sel [(6, aX6_judge g)] o8.1).bind fun F9 =>
      (ah_rV (F9 [.ref a0, .int p2, .int p3, .int p4] h)).bind fun z10 =>
      some (none, z10) := Eq.trans rfl rfl
set_option maxRecDepth 1000000 in
set_option maxHeartbeats 8000000 in
theorem rX6_place_54 (rec : ah_F) (g f : Nat) (x0 : Nat) (x1 : Int32) (x2 : Int32) (x3 : Int32) (x4 : Int32) (x5 : Int32) (h : ah_H) : ah_run (kX6_place rec g) (f + 1) 54 [(0, .ref x0), (1, .int x1), (2, .int x2), (3, .int x3), (4, .int x4), (5, .int x5)] [] h =
  (ah_fi h x0 [6] 8).bind fun v1 =>
  if (x5 : Int32) < v1 then
    (ah_fr h x0 [6] 5).bind fun v2 =>
    (ah_li h v2 0 x5).bind fun v3 =>
    if (v3 : Int32) = (-1) then
      (ah_fr h x0 [6] 6).bind fun v4 =>
      (ah_lr h v4 3 x1).bind fun v5 =>
      (ah_li h v5 0 x5).bind fun v6 =>
      if (v6 : Int32) = (-1) then
        ah_run (kX6_place rec g) f 54 [(0, .ref x0), (1, .int x1), (2, .int x2), (3, .int x3), (4, .int x4), (5, .int (x5 + 1))] [] h
      else
        (ah_fr h x0 [6] 7).bind fun v7 =>
        (ah_li h v7 0 x1).bind fun v8 =>
        (ah_fr h x0 [6] 7).bind fun v9 =>
        (ah_li h v9 0 x5).bind fun v10 =>
        (ah_fr h x0 [6] 5).bind fun v11 =>
        (ah_si h v11 0 x1 x5).bind fun h12 =>
        (ah_fr h12 x0 [6] 5).bind fun v13 =>
        (ah_si h12 v13 0 x5 x1).bind fun h14 =>
        (ah_fr h14 x0 [6] 6).bind fun v15 =>
        (ah_lr h14 v15 3 x1).bind fun v16 =>
        (ah_li h14 v16 0 x5).bind fun v17 =>
        (ah_ob h14 x0).bind fun o18 => (ah_sel [(6, rec)] o18.1).bind fun F19 =>
        (ah_rV (F19 [.ref x0, .int (x1 + 1), .int (x2 + 1), .int (x3 + v17), .int (x4 + (if (0 : Int32) ≤ (v8 - v10) then (v8 - v10) else 0 - (v8 - v10)))] h14)).bind fun z20 =>
        (ah_fr z20 x0 [6] 5).bind fun v21 =>
        (ah_si z20 v21 0 x1 (-1)).bind fun h22 =>
        (ah_fr h22 x0 [6] 5).bind fun v23 =>
        (ah_si h22 v23 0 x5 (-1)).bind fun h24 =>
        ah_run (kX6_place rec g) f 54 [(0, .ref x0), (1, .int x1), (2, .int x2), (3, .int x3), (4, .int x4), (5, .int (x5 + 1))] [] h24
    else
      ah_run (kX6_place rec g) f 54 [(0, .ref x0), (1, .int x1), (2, .int x2), (3, .int x3), (4, .int x4), (5, .int (x5 + 1))] [] h
  else
    some (none, h) := Eq.trans rfl rfl
set_option maxRecDepth 1000000 in
set_option maxHeartbeats 8000000 in
theorem eX6_seek (g f : Nat) (a0 : Nat) (p1 : Nat) (p2 : Int32) (p3 : Int32) (h : ah_H) : ah_fun (kX6_seek g) 4 (f + 1) [.ref a0, .ref p1, .int p2, .int p3] h =
  (ah_sv h a0 [6] 9 (.int p2)).bind fun h1 =>
  (ah_sv h1 a0 [6] 10 (.int p3)).bind fun h2 =>
  (ah_sv h2 a0 [6] 0 (.int 0)).bind fun h3 =>
  (ah_sv h3 a0 [6] 1 (.int 0)).bind fun h4 =>
  (ah_sv h4 a0 [6] 2 (.int 0)).bind fun h5 =>
  (ah_sv h5 a0 [6] 3 (.int 0)).bind fun h6 =>
  (ah_sv h6 a0 [6] 11 (.int 0)).bind fun h7 =>
  (ah_fr h7 a0 [6] 4).bind fun v8 =>
  (ah_rV (aJ7_fill_53178 g [.ref v8, .int (-1)] h7)).bind fun z9 =>
  (ah_fr z9 a0 [6] 5).bind fun v10 =>
  (ah_rV (aJ7_fill_53178 g [.ref v10, .int (-1)] z9)).bind fun z11 =>
  (ah_ob z11 a0).bind fun o12 => (ah_sel [(6, aX6_learn g)] o12.1).bind fun F13 =>
  (ah_rV (F13 [.ref a0, .ref p1] z11)).bind fun z14 =>
  (ah_ob z14 a0).bind fun o15 => (ah_sel [(6, aX6_place g)] o15.1).bind fun F16 =>
  (ah_rV (F16 [.ref a0, .int 0, .int 0, .int 0, .int 0] z14)).bind fun z17 =>
  some (none, z17) := Eq.trans rfl rfl
set_option maxRecDepth 1000000 in
set_option maxHeartbeats 8000000 in
theorem eX7_note (g f : Nat) (a0 : Nat) (p1 : Int32) (p2 : Int32) (p3 : Int32) (h : ah_H) : ah_fun (kX7_note g) 4 (f + 1) [.ref a0, .int p1, .int p2, .int p3] h =
  (ah_fi h a0 [7] 0).bind fun v1 =>
  if (v1 : Int32) < 8 then
    (ah_fr h a0 [7] 1).bind fun v2 =>
    (ah_fi h a0 [7] 0).bind fun v3 =>
    (ah_si h v2 0 v3 p1).bind fun h4 =>
    (ah_fr h4 a0 [7] 2).bind fun v5 =>
    (ah_fi h4 a0 [7] 0).bind fun v6 =>
    (ah_si h4 v5 0 v6 p2).bind fun h7 =>
    (ah_fr h7 a0 [7] 3).bind fun v8 =>
    (ah_fi h7 a0 [7] 0).bind fun v9 =>
    (ah_si h7 v8 0 v9 p3).bind fun h10 =>
    (ah_fi h10 a0 [7] 0).bind fun v11 =>
    (ah_sv h10 a0 [7] 0 (.int (v11 + 1))).bind fun h12 =>
    some (some (.int 1), h12)
  else
    some (some (.int 0), h) := Eq.trans rfl rfl
set_option maxRecDepth 1000000 in
set_option maxHeartbeats 8000000 in
theorem eX7_clear (g f : Nat) (a0 : Nat) (h : ah_H) : ah_fun (kX7_clear g) 1 (f + 1) [.ref a0] h =
  (ah_sv h a0 [7] 0 (.int 0)).bind fun h1 =>
  some (none, h1) := Eq.trans rfl rfl
set_option maxRecDepth 1000000 in
set_option maxHeartbeats 8000000 in
theorem eX7_agrees (g f : Nat) (a0 : Nat) (p1 : Nat) (p2 : Int32) (p3 : Int32) (h : ah_H) : ah_fun (kX7_agrees g) 5 (f + 1) [.ref a0, .ref p1, .int p2, .int p3] h =
  ah_run (kX7_agrees g) f 3 [(0, .ref a0), (1, .ref p1), (2, .int p2), (3, .int p3), (4, .int 0)] [] h := Eq.trans rfl rfl
set_option maxRecDepth 1000000 in
set_option maxHeartbeats 8000000 in
theorem rX7_agrees_3 (g f : Nat) (x0 : Nat) (x1 : Nat) (x2 : Int32) (x3 : Int32) (x4 : Int32) (h : ah_H) : ah_run (kX7_agrees g) (f + 1) 3 [(0, .ref x0), (1, .ref x1), (2, .int x2), (3, .int x3), (4, .int x4)] [] h =
  (ah_fi h x0 [7] 0).bind fun v1 =>
  if (x4 : Int32) < v1 then
    (ah_fr h x0 [7] 1).bind fun v2 =>
    (ah_li h v2 0 x4).bind fun v3 =>
    if (v3 : Int32) = x2 then
      (ah_fr h x0 [7] 2).bind fun v4 =>
      (ah_li h v4 0 x4).bind fun v5 =>
      (ah_ob h x1).bind fun o6 => (ah_sel [(0, aX0_likenessAt g)] o6.1).bind fun F7 =>
      (ah_rI (F7 [.ref x1, .int x2, .int x3, .int v5] h)).bind fun z8 =>
      (ah_fr z8.2 x0 [7] 3).bind fun v9 =>
      (ah_li z8.2 v9 0 x4).bind fun v10 =>
      if (z8.1 : Int32) = v10 then
        ah_run (kX7_agrees g) f 3 [(0, .ref x0), (1, .ref x1), (2, .int x2), (3, .int x3), (4, .int (x4 + 1))] [] z8.2
      else
        some (some (.int 0), z8.2)
    else
      ah_run (kX7_agrees g) f 3 [(0, .ref x0), (1, .ref x1), (2, .int x2), (3, .int x3), (4, .int (x4 + 1))] [] h
  else
    some (some (.int 1), h) := Eq.trans rfl rfl
set_option maxRecDepth 1000000 in
set_option maxHeartbeats 8000000 in
theorem eX7_sizesOf (g f : Nat) (a0 : Nat) (p1 : Nat) (p2 : Int32) (h : ah_H) : ah_fun (kX7_sizesOf g) 5 (f + 1) [.ref a0, .ref p1, .int p2] h =
  ah_run (kX7_sizesOf g) f 5 [(0, .ref a0), (1, .ref p1), (2, .int p2), (3, .int 0), (4, .int 0)] [] h := Eq.trans rfl rfl
set_option maxRecDepth 1000000 in
set_option maxHeartbeats 8000000 in
theorem rX7_sizesOf_5 (g f : Nat) (x0 : Nat) (x1 : Nat) (x2 : Int32) (x3 : Int32) (x4 : Int32) (h : ah_H) : ah_run (kX7_sizesOf g) (f + 1) 5 [(0, .ref x0), (1, .ref x1), (2, .int x2), (3, .int x3), (4, .int x4)] [] h =
  if (x4 : Int32) < 10 then
    (ah_ob h x0).bind fun o1 => (ah_sel [(7, aX7_agrees g)] o1.1).bind fun F2 =>
    (ah_rI (F2 [.ref x0, .ref x1, .int x2, .int x4] h)).bind fun z3 =>
    if (z3.1 : Int32) = 0 then
      ah_run (kX7_sizesOf g) f 5 [(0, .ref x0), (1, .ref x1), (2, .int x2), (3, .int x3), (4, .int (x4 + 1))] [] z3.2
    else
      ah_run (kX7_sizesOf g) f 5 [(0, .ref x0), (1, .ref x1), (2, .int x2), (3, .int (x3 ||| (1 <<< (x4 &&& 31)))), (4, .int (x4 + 1))] [] z3.2
  else
    some (some (.int x3), h) := Eq.trans rfl rfl
set_option maxRecDepth 1000000 in
set_option maxHeartbeats 8000000 in
theorem eX7_leftAtWorst (g f : Nat) (a0 : Nat) (p1 : Nat) (p2 : Int32) (p3 : Int32) (p4 : Int32) (h : ah_H) : ah_fun (kX7_leftAtWorst g) 8 (f + 1) [.ref a0, .ref p1, .int p2, .int p3, .int p4] h =
  (ah_fr h a0 [7] 4).bind fun v1 =>
  (ah_rV (aJ7_fill_53178 g [.ref v1, .int 0] h)).bind fun z2 =>
  ah_run (kX7_leftAtWorst g) f 14 [(0, .ref a0), (1, .ref p1), (2, .int p2), (3, .int p3), (4, .int p4), (5, .int 0), (6, .int 0)] [] z2 := Eq.trans rfl rfl
set_option maxRecDepth 1000000 in
set_option maxHeartbeats 8000000 in
theorem rX7_leftAtWorst_14 (g f : Nat) (x0 : Nat) (x1 : Nat) (x2 : Int32) (x3 : Int32) (x4 : Int32) (x5 : Int32) (x6 : Int32) (h : ah_H) : ah_run (kX7_leftAtWorst g) (f + 1) 14 [(0, .ref x0), (1, .ref x1), (2, .int x2), (3, .int x3), (4, .int x4), (5, .int x5), (6, .int x6)] [] h =
  if (x6 : Int32) < 10 then
    (ah_ob h x1).bind fun o1 => (ah_sel [(0, aX0_likenessAt g)] o1.1).bind fun F2 =>
    (ah_rI (F2 [.ref x1, .int x2, .int x6, .int x3] h)).bind fun z3 =>
    if (((x4 >>> (x6 &&& 31)) &&& 1) : Int32) = 1 then
      if ((z3.1 - (-1)) : Int32) < 0 then
        ah_run (kX7_leftAtWorst g) f 14 [(0, .ref x0), (1, .ref x1), (2, .int x2), (3, .int x3), (4, .int x4), (5, .int x5), (6, .int (x6 + 1))] [] z3.2
      else
        if ((z3.1 - (-1)) : Int32) < 20 then
          (ah_fr z3.2 x0 [7] 4).bind fun v4 =>
          (ah_li z3.2 v4 0 (z3.1 - (-1))).bind fun v5 =>
          (ah_si z3.2 v4 0 (z3.1 - (-1)) (v5 + 1)).bind fun h6 =>
          (ah_fr h6 x0 [7] 4).bind fun v7 =>
          (ah_li h6 v7 0 (z3.1 - (-1))).bind fun v8 =>
          ah_run (kX7_leftAtWorst g) f 14 [(0, .ref x0), (1, .ref x1), (2, .int x2), (3, .int x3), (4, .int x4), (5, .int (if (x5 : Int32) < v8 then v8 else x5)), (6, .int (x6 + 1))] [] h6
        else
          ah_run (kX7_leftAtWorst g) f 14 [(0, .ref x0), (1, .ref x1), (2, .int x2), (3, .int x3), (4, .int x4), (5, .int x5), (6, .int (x6 + 1))] [] z3.2
    else
      ah_run (kX7_leftAtWorst g) f 14 [(0, .ref x0), (1, .ref x1), (2, .int x2), (3, .int x3), (4, .int x4), (5, .int x5), (6, .int (x6 + 1))] [] z3.2
  else
    some (some (.int x5), h) := Eq.trans rfl rfl
set_option maxRecDepth 1000000 in
set_option maxHeartbeats 8000000 in
theorem eX7_lookOf (g f : Nat) (a0 : Nat) (p1 : Nat) (p2 : Int32) (p3 : Int32) (h : ah_H) : ah_fun (kX7_lookOf g) 8 (f + 1) [.ref a0, .ref p1, .int p2, .int p3] h =
  if (p3 : Int32) = 0 then
    some (some (.int (-1)), h)
  else
    ah_run (kX7_lookOf g) f 16 [(0, .ref a0), (1, .ref p1), (2, .int p2), (3, .int p3), (4, .int (-1)), (5, .int 11), (6, .int 0)] [] h := Eq.trans rfl rfl
set_option maxRecDepth 1000000 in
set_option maxHeartbeats 8000000 in
theorem rX7_lookOf_16 (g f : Nat) (x0 : Nat) (x1 : Nat) (x2 : Int32) (x3 : Int32) (x4 : Int32) (x5 : Int32) (x6 : Int32) (h : ah_H) : ah_run (kX7_lookOf g) (f + 1) 16 [(0, .ref x0), (1, .ref x1), (2, .int x2), (3, .int x3), (4, .int x4), (5, .int x5), (6, .int x6)] [] h =
  (ah_fi h x1 [0] 2).bind fun v1 =>
  if (x6 : Int32) < v1 then
    if (x6 : Int32) = x2 then
      if (11 : Int32) < x5 then
        ah_run (kX7_lookOf g) f 16 [(0, .ref x0), (1, .ref x1), (2, .int x2), (3, .int x3), (4, .int x6), (5, .int 11), (6, .int (x6 + 1))] [] h
      else
        ah_run (kX7_lookOf g) f 16 [(0, .ref x0), (1, .ref x1), (2, .int x2), (3, .int x3), (4, .int x4), (5, .int x5), (6, .int (x6 + 1))] [] h
    else
      (ah_ob h x0).bind fun o2 => (ah_sel [(7, aX7_leftAtWorst g)] o2.1).bind fun F3 =>
      (ah_rI (F3 [.ref x0, .ref x1, .int x2, .int x6, .int x3] h)).bind fun z4 =>
      if (z4.1 : Int32) < x5 then
        ah_run (kX7_lookOf g) f 16 [(0, .ref x0), (1, .ref x1), (2, .int x2), (3, .int x3), (4, .int x6), (5, .int z4.1), (6, .int (x6 + 1))] [] z4.2
      else
        ah_run (kX7_lookOf g) f 16 [(0, .ref x0), (1, .ref x1), (2, .int x2), (3, .int x3), (4, .int x4), (5, .int x5), (6, .int (x6 + 1))] [] z4.2
  else
    some (some (.int x4), h) := Eq.trans rfl rfl
set_option maxRecDepth 1000000 in
set_option maxHeartbeats 8000000 in
theorem eX8_kindNumber (g f : Nat) (a0 : Nat) (h : ah_H) : ah_fun (kX8_kindNumber g) 1 (f + 1) [.ref a0] h =
  some (some (.int 0), h) := Eq.trans rfl rfl
set_option maxRecDepth 1000000 in
set_option maxHeartbeats 8000000 in
theorem eX9_kindNumber (g f : Nat) (a0 : Nat) (h : ah_H) : ah_fun (kX9_kindNumber g) 1 (f + 1) [.ref a0] h =
  some (some (.int 2), h) := Eq.trans rfl rfl
set_option maxRecDepth 1000000 in
set_option maxHeartbeats 8000000 in
theorem eX10_draw (g f : Nat) (a0 : Nat) (p1 : Int32) (h : ah_H) : ah_fun (kX10_draw g) 2 (f + 1) [.ref a0, .int p1] h =
  (ah_fl h a0 [10] 2).bind fun v1 =>
  if (2147483648 : Int64) = 0 then none else
  (ah_sv h a0 [10] 2 (.long ((((1103515245 * v1) + 12345) : Int64) - ((1103515245 * v1) + 12345) / 2147483648 * 2147483648))).bind fun h2 =>
  if (0 : Int32) < p1 then
    (ah_fl h2 a0 [10] 2).bind fun v3 =>
    if (65536 : Int64) = 0 then none else
    if (((p1 : Int32).toInt64) : Int64) = 0 then none else
    some (some (.int ((((((v3 : Int64) / 65536) : Int64) - ((v3 : Int64) / 65536) / ((p1 : Int32).toInt64) * ((p1 : Int32).toInt64)) : Int64).toInt32)), h2)
  else
    some (some (.int (-1)), h2) := Eq.trans rfl rfl
set_option maxRecDepth 1000000 in
set_option maxHeartbeats 8000000 in
theorem eX10_meet (g f : Nat) (a0 : Nat) (p1 : Nat) (p2 : Int32) (p3 : Int32) (h : ah_H) : ah_fun (kX10_meet g) 5 (f + 1) [.ref a0, .ref p1, .int p2, .int p3] h =
  (ah_ob h p1).bind fun o1 => (ah_sel [(0, aX0_hasTwo g)] o1.1).bind fun F2 =>
  (ah_rI (F2 [.ref p1, .int p2, .int p3] h)).bind fun z3 =>
  if (z3.1 : Int32) = 0 then
    some (none, z3.2)
  else
    (ah_fr z3.2 a0 [10] 3).bind fun v4 =>
    (ah_li z3.2 v4 1 p2).bind fun v5 =>
    if (v5 : Int32) = 0 then
      (ah_fr z3.2 a0 [10] 3).bind fun v6 =>
      (ah_li z3.2 v6 1 p3).bind fun v7 =>
      if (v7 : Int32) = 0 then
        (ah_ob z3.2 p1).bind fun o8 => (ah_sel [(0, aX0_likenessOf g)] o8.1).bind fun F9 =>
        (ah_rI (F9 [.ref p1, .int p2, .int p3] z3.2)).bind fun z10 =>
        if (z10.1 : Int32) = (-1) then
          some (none, z10.2)
        else
          (ah_fr z10.2 a0 [10] 3).bind fun v11 =>
          if (1 : Int32) = 0 ∨ (1 : Int32) = 1 then
          (ah_si z10.2 v11 1 p2 1).bind fun h12 =>
          (ah_fr h12 a0 [10] 3).bind fun v13 =>
          if (1 : Int32) = 0 ∨ (1 : Int32) = 1 then
          (ah_si h12 v13 1 p3 1).bind fun h14 =>
          (ah_fi h14 a0 [10] 0).bind fun v15 =>
          (ah_sv h14 a0 [10] 0 (.int (v15 + 1))).bind fun h16 =>
          (ah_fi h16 a0 [10] 1).bind fun v17 =>
          (ah_sv h16 a0 [10] 1 (.int (v17 + z10.1))).bind fun h18 =>
          some (none, h18)
          else none
          else none
      else
        some (none, z3.2)
    else
      some (none, z3.2) := Eq.trans rfl rfl
set_option maxRecDepth 1000000 in
set_option maxHeartbeats 8000000 in
theorem eX10_pass (g f : Nat) (a0 : Nat) (p1 : Nat) (p2 : Int32) (p3 : Int32) (h : ah_H) : ah_fun (kX10_pass g) 7 (f + 1) [.ref a0, .ref p1, .int p2, .int p3] h =
  (ah_sv h a0 [10] 0 (.int 0)).bind fun h1 =>
  (ah_sv h1 a0 [10] 1 (.int 0)).bind fun h2 =>
  (ah_sv h2 a0 [10] 2 (.long ((p3 : Int32).toInt64))).bind fun h3 =>
  ah_run (kX10_pass g) f 19 [(0, .ref a0), (1, .ref p1), (2, .int p2), (4, .int 0)] [] h3 := Eq.trans rfl rfl
set_option maxRecDepth 1000000 in
set_option maxHeartbeats 8000000 in
theorem rX10_pass_19 (g f : Nat) (x0 : Nat) (x1 : Nat) (x2 : Int32) (x4 : Int32) (h : ah_H) : ah_run (kX10_pass g) (f + 1) 19 [(0, .ref x0), (1, .ref x1), (2, .int x2), (4, .int x4)] [] h =
  (ah_fi h x1 [0] 2).bind fun v1 =>
  if (x4 : Int32) < v1 then
    (ah_fr h x0 [10] 3).bind fun v2 =>
    (ah_ob h x1).bind fun o3 => (ah_sel [(0, aX0_isPaired g)] o3.1).bind fun F4 =>
    (ah_rI (F4 [.ref x1, .int x4] h)).bind fun z5 =>
    if (z5.1 : Int32) = 0 ∨ (z5.1 : Int32) = 1 then
    (ah_si z5.2 v2 1 x4 z5.1).bind fun h6 =>
    ah_run (kX10_pass g) f 19 [(0, .ref x0), (1, .ref x1), (2, .int x2), (4, .int (x4 + 1))] [] h6
    else none
  else
    ah_run (kX10_pass g) f 50 [(0, .ref x0), (1, .ref x1), (2, .int x2), (4, .int 0)] [] h := Eq.trans rfl rfl
set_option maxRecDepth 1000000 in
set_option maxHeartbeats 8000000 in
theorem rX10_pass_50 (g f : Nat) (x0 : Nat) (x1 : Nat) (x2 : Int32) (x4 : Int32) (h : ah_H) : ah_run (kX10_pass g) (f + 1) 50 [(0, .ref x0), (1, .ref x1), (2, .int x2), (4, .int x4)] [] h =
  if (x4 : Int32) < x2 then
    (ah_fi h x1 [0] 2).bind fun v1 =>
    (ah_ob h x0).bind fun o2 => (ah_sel [(10, aX10_draw g)] o2.1).bind fun F3 =>
    (ah_rI (F3 [.ref x0, .int v1] h)).bind fun z4 =>
    (ah_fi z4.2 x1 [0] 2).bind fun v5 =>
    (ah_ob z4.2 x0).bind fun o6 => (ah_sel [(10, aX10_draw g)] o6.1).bind fun F7 =>
    (ah_rI (F7 [.ref x0, .int v5] z4.2)).bind fun z8 =>
    (ah_ob z8.2 x0).bind fun o9 => (ah_sel [(10, aX10_meet g)] o9.1).bind fun F10 =>
    (ah_rV (F10 [.ref x0, .ref x1, .int z4.1, .int z8.1] z8.2)).bind fun z11 =>
    ah_run (kX10_pass g) f 50 [(0, .ref x0), (1, .ref x1), (2, .int x2), (4, .int (x4 + 1))] [] z11
  else
    some (none, h) := Eq.trans rfl rfl
set_option maxRecDepth 1000000 in
set_option maxHeartbeats 8000000 in
theorem eX11_letter (g f : Nat) (a0 : Nat) (p1 : Int32) (h : ah_H) : ah_fun (kX11_letter g) 2 (f + 1) [.ref a0, .int p1] h =
  if (p1 : Int32) < 1 then
    some (some (.int (-102)), h)
  else
    if (126 : Int32) < p1 then
      some (some (.int (-102)), h)
    else
      (ah_fr h a0 [11] 0).bind fun v1 =>
      (ah_ob h v1).bind fun o2 => (ah_sel [(4, aX4_write g)] o2.1).bind fun F3 =>
      (ah_rI (F3 [.ref v1, .int p1] h)).bind fun z4 =>
      if (z4.1 : Int32) = 0 then
        some (some (.int (-104)), z4.2)
      else
        (ah_fr z4.2 a0 [11] 0).bind fun v5 =>
        (ah_fi z4.2 v5 [4] 1).bind fun v6 =>
        some (some (.int v6), z4.2) := Eq.trans rfl rfl
set_option maxRecDepth 1000000 in
set_option maxHeartbeats 8000000 in
theorem eX11_blank (g f : Nat) (a0 : Nat) (h : ah_H) : ah_fun (kX11_blank g) 2 (f + 1) [.ref a0] h =
  (ah_fr h a0 [11] 0).bind fun v1 =>
  (ah_fi h v1 [4] 1).bind fun v2 =>
  (ah_fr h a0 [11] 0).bind fun v3 =>
  (ah_ob h v3).bind fun o4 => (ah_sel [(4, aX4_clear g)] o4.1).bind fun F5 =>
  (ah_rV (F5 [.ref v3] h)).bind fun z6 =>
  some (some (.int v2), z6) := Eq.trans rfl rfl
set_option maxRecDepth 1000000 in
set_option maxHeartbeats 8000000 in
theorem eX11_fault (g f : Nat) (a0 : Nat) (h : ah_H) : ah_fun (kX11_fault g) 1 (f + 1) [.ref a0] h =
  (ah_fr h a0 [11] 0).bind fun v1 =>
  (ah_ob h v1).bind fun o2 => (ah_sel [(4, aX4_firstFault g)] o2.1).bind fun F3 =>
  (ah_rI (F3 [.ref v1] h)).bind fun z4 =>
  some (some (.int z4.1), z4.2) := Eq.trans rfl rfl
set_option maxRecDepth 1000000 in
set_option maxHeartbeats 8000000 in
theorem eX11_single (g f : Nat) (a0 : Nat) (p1 : Int32) (p2 : Int32) (h : ah_H) : ah_fun (kX11_single g) 4 (f + 1) [.ref a0, .int p1, .int p2] h =
  (ah_fr h a0 [11] 1).bind fun v1 =>
  (ah_ob h v1).bind fun o2 => (ah_sel [(0, aX0_has g)] o2.1).bind fun F3 =>
  (ah_rI (F3 [.ref v1, .int p1] h)).bind fun z4 =>
  if (z4.1 : Int32) = 0 then
    some (some (.int (-101)), z4.2)
  else
    (ah_fr z4.2 a0 [11] 1).bind fun v5 =>
    (ah_fr z4.2 v5 [0] 0).bind fun v6 =>
    (ah_lr z4.2 v6 2 p1).bind fun v7 =>
    if (p2 : Int32) = 0 then
      (ah_ob z4.2 v7).bind fun o8 => (ah_sel [(1, aX1_kindNumber g), (3, aX3_kindNumber g), (5, aX5_kindNumber g), (8, aX8_kindNumber g), (9, aX9_kindNumber g)] o8.1).bind fun F9 =>
      (ah_rI (F9 [.ref v7] z4.2)).bind fun z10 =>
      some (some (.int z10.1), z10.2)
    else if (p2 : Int32) = 1 then
      (ah_fi z4.2 v7 [1, 3, 5, 8, 9] 0).bind fun v11 =>
      some (some (.int v11), z4.2)
    else if (p2 : Int32) = 2 then
      (ah_fi z4.2 v7 [1, 3, 5, 8, 9] 1).bind fun v12 =>
      some (some (.int v12), z4.2)
    else if (p2 : Int32) = 3 then
      (ah_fi z4.2 v7 [1, 3, 5, 8, 9] 2).bind fun v13 =>
      some (some (.int v13), z4.2)
    else if (p2 : Int32) = 4 then
      (ah_fi z4.2 v7 [1, 3, 5, 8, 9] 3).bind fun v14 =>
      some (some (.int v14), z4.2)
    else if (p2 : Int32) = 5 then
      (ah_fr z4.2 a0 [11] 1).bind fun v15 =>
      (ah_ob z4.2 v15).bind fun o16 => (ah_sel [(0, aX0_matchesOf g)] o16.1).bind fun F17 =>
      (ah_rI (F17 [.ref v15, .int p1] z4.2)).bind fun z18 =>
      some (some (.int z18.1), z18.2)
    else if (p2 : Int32) = 6 then
      (ah_fr z4.2 a0 [11] 1).bind fun v19 =>
      (ah_ob z4.2 v19).bind fun o20 => (ah_sel [(0, aX0_favouriteOf g)] o20.1).bind fun F21 =>
      (ah_rI (F21 [.ref v19, .int p1] z4.2)).bind fun z22 =>
      some (some (.int z22.1), z22.2)
    else if (p2 : Int32) = 7 then
      (ah_fr z4.2 a0 [11] 1).bind fun v23 =>
      (ah_ob z4.2 v23).bind fun o24 => (ah_sel [(0, aX0_spikeOf g)] o24.1).bind fun F25 =>
      (ah_rI (F25 [.ref v23, .int p1] z4.2)).bind fun z26 =>
      some (some (.int z26.1), z26.2)
    else if (p2 : Int32) = 8 then
      (ah_fr z4.2 a0 [11] 1).bind fun v27 =>
      (ah_fr z4.2 a0 [11] 1).bind fun v28 =>
      (ah_ob z4.2 v28).bind fun o29 => (ah_sel [(0, aX0_spikeOf g)] o29.1).bind fun F30 =>
      (ah_rI (F30 [.ref v28, .int p1] z4.2)).bind fun z31 =>
      (ah_ob z31.2 v27).bind fun o32 => (ah_sel [(0, aX0_seersAt g)] o32.1).bind fun F33 =>
      (ah_rI (F33 [.ref v27, .int p1, .int z31.1] z31.2)).bind fun z34 =>
      some (some (.int z34.1), z34.2)
    else if (p2 : Int32) = 9 then
      (ah_fr z4.2 a0 [11] 1).bind fun v35 =>
      (ah_fr z4.2 v35 [0] 1).bind fun v36 =>
      (ah_fr z4.2 a0 [11] 1).bind fun v37 =>
      (ah_ob z4.2 v36).bind fun o38 => (ah_sel [(7, aX7_sizesOf g)] o38.1).bind fun F39 =>
      (ah_rI (F39 [.ref v36, .ref v37, .int p1] z4.2)).bind fun z40 =>
      some (some (.int z40.1), z40.2)
    else if (p2 : Int32) = 10 then
      (ah_fr z4.2 a0 [11] 1).bind fun v41 =>
      (ah_fr z4.2 v41 [0] 1).bind fun v42 =>
      (ah_fr z4.2 a0 [11] 1).bind fun v43 =>
      (ah_fr z4.2 a0 [11] 1).bind fun v44 =>
      (ah_fr z4.2 v44 [0] 1).bind fun v45 =>
      (ah_fr z4.2 a0 [11] 1).bind fun v46 =>
      (ah_ob z4.2 v45).bind fun o47 => (ah_sel [(7, aX7_sizesOf g)] o47.1).bind fun F48 =>
      (ah_rI (F48 [.ref v45, .ref v46, .int p1] z4.2)).bind fun z49 =>
      (ah_ob z49.2 v42).bind fun o50 => (ah_sel [(7, aX7_lookOf g)] o50.1).bind fun F51 =>
      (ah_rI (F51 [.ref v42, .ref v43, .int p1, .int z49.1] z49.2)).bind fun z52 =>
      some (some (.int z52.1), z52.2)
    else 
      some (some (.int (-102)), z4.2) := Eq.trans rfl rfl
set_option maxRecDepth 1000000 in
set_option maxHeartbeats 8000000 in
theorem eX11_isOfKind (g f : Nat) (p1 : Nat) (p2 : Int32) (h : ah_H) : ah_fun (kX11_isOfKind g) 2 (f + 1) [.ref p1, .int p2] h =
  if (p2 : Int32) = 0 then
    some (some (.int 1), h)
  else if (p2 : Int32) = 1 then
    bif ah_is h p1 [1, 3] then
      some (some (.int 1), h)
    else bif ah_is h p1 [5, 8, 9] then
      some (some (.int 0), h)
    else none
  else if (p2 : Int32) = 2 then
    bif ah_is h p1 [9] then
      some (some (.int 1), h)
    else bif ah_is h p1 [1, 3, 5, 8] then
      some (some (.int 0), h)
    else none
  else if (p2 : Int32) = 3 then
    bif ah_is h p1 [5] then
      some (some (.int 1), h)
    else bif ah_is h p1 [1, 3, 8, 9] then
      some (some (.int 0), h)
    else none
  else if (p2 : Int32) = 4 then
    bif ah_is h p1 [3] then
      some (some (.int 1), h)
    else bif ah_is h p1 [1, 5, 8, 9] then
      some (some (.int 0), h)
    else none
  else 
    some (some (.int 0), h) := Eq.trans rfl rfl
set_option maxRecDepth 1000000 in
set_option maxHeartbeats 8000000 in
theorem eX11_as (g f : Nat) (a0 : Nat) (p1 : Int32) (p2 : Int32) (h : ah_H) : ah_fun (kX11_as g) 3 (f + 1) [.ref a0, .int p1, .int p2] h =
  (ah_fr h a0 [11] 1).bind fun v1 =>
  (ah_ob h v1).bind fun o2 => (ah_sel [(0, aX0_has g)] o2.1).bind fun F3 =>
  (ah_rI (F3 [.ref v1, .int p1] h)).bind fun z4 =>
  if (z4.1 : Int32) = 0 then
    some (some (.int (-101)), z4.2)
  else
    if (p2 : Int32) < 0 then
      some (some (.int (-102)), z4.2)
    else
      if (p2 : Int32) < 5 then
        (ah_fr z4.2 a0 [11] 1).bind fun v5 =>
        (ah_fr z4.2 v5 [0] 0).bind fun v6 =>
        (ah_lr z4.2 v6 2 p1).bind fun v7 =>
        (ah_rI (aX11_isOfKind g [.ref v7, .int p2] z4.2)).bind fun z8 =>
        if (z8.1 : Int32) = 0 then
          some (some (.int (-1)), z8.2)
        else
          some (some (.int p1), z8.2)
      else
        some (some (.int (-102)), z4.2) := Eq.trans rfl rfl
set_option maxRecDepth 1000000 in
set_option maxHeartbeats 8000000 in
theorem eX11_likeness (g f : Nat) (a0 : Nat) (p1 : Int32) (p2 : Int32) (h : ah_H) : ah_fun (kX11_likeness g) 3 (f + 1) [.ref a0, .int p1, .int p2] h =
  (ah_fr h a0 [11] 1).bind fun v1 =>
  (ah_ob h v1).bind fun o2 => (ah_sel [(0, aX0_hasTwo g)] o2.1).bind fun F3 =>
  (ah_rI (F3 [.ref v1, .int p1, .int p2] h)).bind fun z4 =>
  if (z4.1 : Int32) = 0 then
    some (some (.int (-101)), z4.2)
  else
    (ah_fr z4.2 a0 [11] 1).bind fun v5 =>
    (ah_ob z4.2 v5).bind fun o6 => (ah_sel [(0, aX0_likenessOf g)] o6.1).bind fun F7 =>
    (ah_rI (F7 [.ref v5, .int p1, .int p2] z4.2)).bind fun z8 =>
    some (some (.int z8.1), z8.2) := Eq.trans rfl rfl
set_option maxRecDepth 1000000 in
set_option maxHeartbeats 8000000 in
theorem eX11_apart (g f : Nat) (a0 : Nat) (p1 : Int32) (p2 : Int32) (h : ah_H) : ah_fun (kX11_apart g) 3 (f + 1) [.ref a0, .int p1, .int p2] h =
  (ah_fr h a0 [11] 1).bind fun v1 =>
  (ah_ob h v1).bind fun o2 => (ah_sel [(0, aX0_hasTwo g)] o2.1).bind fun F3 =>
  (ah_rI (F3 [.ref v1, .int p1, .int p2] h)).bind fun z4 =>
  if (z4.1 : Int32) = 0 then
    some (some (.int (-101)), z4.2)
  else
    (ah_fr z4.2 a0 [11] 1).bind fun v5 =>
    (ah_fr z4.2 v5 [0] 0).bind fun v6 =>
    (ah_lr z4.2 v6 2 p1).bind fun v7 =>
    (ah_fr z4.2 a0 [11] 1).bind fun v8 =>
    (ah_fr z4.2 v8 [0] 0).bind fun v9 =>
    (ah_lr z4.2 v9 2 p2).bind fun v10 =>
    (ah_ob z4.2 v7).bind fun o11 => (ah_sel [(1, aX8_distanceTo g), (3, aX3_distanceTo g), (5, aX8_distanceTo g), (8, aX8_distanceTo g), (9, aX8_distanceTo g)] o11.1).bind fun F12 =>
    (ah_rI (F12 [.ref v7, .ref v10] z4.2)).bind fun z13 =>
    some (some (.int z13.1), z13.2) := Eq.trans rfl rfl
set_option maxRecDepth 1000000 in
set_option maxHeartbeats 8000000 in
theorem eX11_isStation (g f : Nat) (p1 : Int32) (h : ah_H) : ah_fun (kX11_isStation g) 1 (f + 1) [.int p1] h =
  if (p1 : Int32) < 0 then
    some (some (.int 0), h)
  else
    if (p1 : Int32) < 6 then
      some (some (.int 1), h)
    else
      some (some (.int 0), h) := Eq.trans rfl rfl
set_option maxRecDepth 1000000 in
set_option maxHeartbeats 8000000 in
theorem eX11_carry (g f : Nat) (a0 : Nat) (p1 : Int32) (p2 : Int32) (h : ah_H) : ah_fun (kX11_carry g) 3 (f + 1) [.ref a0, .int p1, .int p2] h =
  (ah_fr h a0 [11] 1).bind fun v1 =>
  (ah_ob h v1).bind fun o2 => (ah_sel [(0, aX0_has g)] o2.1).bind fun F3 =>
  (ah_rI (F3 [.ref v1, .int p1] h)).bind fun z4 =>
  if (z4.1 : Int32) = 0 then
    some (some (.int (-101)), z4.2)
  else
    (ah_rI (aX11_isStation g [.int p2] z4.2)).bind fun z5 =>
    if (z5.1 : Int32) = 0 then
      some (some (.int (-101)), z5.2)
    else
      (ah_fr z5.2 a0 [11] 1).bind fun v6 =>
      (ah_ob z5.2 v6).bind fun o7 => (ah_sel [(0, aX0_isPaired g)] o7.1).bind fun F8 =>
      (ah_rI (F8 [.ref v6, .int p1] z5.2)).bind fun z9 =>
      if (z9.1 : Int32) = 0 then
        (ah_fr z9.2 a0 [11] 1).bind fun v10 =>
        (ah_ob z9.2 v10).bind fun o11 => (ah_sel [(0, aX0_carryTo g)] o11.1).bind fun F12 =>
        (ah_rI (F12 [.ref v10, .int p1, .int p2] z9.2)).bind fun z13 =>
        some (some (.int z13.1), z13.2)
      else
        some (some (.int (-103)), z9.2) := Eq.trans rfl rfl
set_option maxRecDepth 1000000 in
set_option maxHeartbeats 8000000 in
theorem eX11_bring (g f : Nat) (a0 : Nat) (p1 : Int32) (p2 : Int32) (h : ah_H) : ah_fun (kX11_bring g) 3 (f + 1) [.ref a0, .int p1, .int p2] h =
  (ah_fr h a0 [11] 1).bind fun v1 =>
  (ah_ob h v1).bind fun o2 => (ah_sel [(0, aX0_hasTwo g)] o2.1).bind fun F3 =>
  (ah_rI (F3 [.ref v1, .int p1, .int p2] h)).bind fun z4 =>
  if (z4.1 : Int32) = 0 then
    some (some (.int (-101)), z4.2)
  else
    (ah_fr z4.2 a0 [11] 1).bind fun v5 =>
    (ah_ob z4.2 v5).bind fun o6 => (ah_sel [(0, aX0_canMeet g)] o6.1).bind fun F7 =>
    (ah_rI (F7 [.ref v5, .int p1, .int p2] z4.2)).bind fun z8 =>
    if (z8.1 : Int32) = 0 then
      some (some (.int (-103)), z8.2)
    else
      (ah_fr z8.2 a0 [11] 1).bind fun v9 =>
      (ah_ob z8.2 v9).bind fun o10 => (ah_sel [(0, aX0_pairUp g)] o10.1).bind fun F11 =>
      (ah_rV (F11 [.ref v9, .int p1, .int p2] z8.2)).bind fun z12 =>
      (ah_fr z12 a0 [11] 1).bind fun v13 =>
      (ah_fi z12 v13 [0] 4).bind fun v14 =>
      (ah_sv z12 v13 [0] 4 (.int (v14 + 1))).bind fun h15 =>
      (ah_fr h15 a0 [11] 1).bind fun v16 =>
      (ah_ob h15 v16).bind fun o17 => (ah_sel [(0, aX0_likenessOf g)] o17.1).bind fun F18 =>
      (ah_rI (F18 [.ref v16, .int p1, .int p2] h15)).bind fun z19 =>
      some (some (.int z19.1), z19.2) := Eq.trans rfl rfl
set_option maxRecDepth 1000000 in
set_option maxHeartbeats 8000000 in
theorem eX11_part (g f : Nat) (a0 : Nat) (p1 : Int32) (h : ah_H) : ah_fun (kX11_part g) 3 (f + 1) [.ref a0, .int p1] h =
  (ah_fr h a0 [11] 1).bind fun v1 =>
  (ah_ob h v1).bind fun o2 => (ah_sel [(0, aX0_has g)] o2.1).bind fun F3 =>
  (ah_rI (F3 [.ref v1, .int p1] h)).bind fun z4 =>
  if (z4.1 : Int32) = 0 then
    some (some (.int (-101)), z4.2)
  else
    (ah_fr z4.2 a0 [11] 1).bind fun v5 =>
    (ah_ob z4.2 v5).bind fun o6 => (ah_sel [(0, aX0_isPaired g)] o6.1).bind fun F7 =>
    (ah_rI (F7 [.ref v5, .int p1] z4.2)).bind fun z8 =>
    if (z8.1 : Int32) = 0 then
      some (some (.int (-103)), z8.2)
    else
      (ah_fr z8.2 a0 [11] 1).bind fun v9 =>
      (ah_fr z8.2 v9 [0] 0).bind fun v10 =>
      (ah_lr z8.2 v10 2 p1).bind fun v11 =>
      (ah_fi z8.2 v11 [1, 3, 5, 8, 9] 3).bind fun v12 =>
      (ah_fr z8.2 a0 [11] 1).bind fun v13 =>
      (ah_ob z8.2 v13).bind fun o14 => (ah_sel [(0, aX0_separate g)] o14.1).bind fun F15 =>
      (ah_rV (F15 [.ref v13, .int p1] z8.2)).bind fun z16 =>
      (ah_fr z16 a0 [11] 1).bind fun v17 =>
      (ah_fi z16 v17 [0] 5).bind fun v18 =>
      (ah_sv z16 v17 [0] 5 (.int (v18 + 1))).bind fun h19 =>
      some (some (.int v12), h19) := Eq.trans rfl rfl
set_option maxRecDepth 1000000 in
set_option maxHeartbeats 8000000 in
theorem eX11_shrink (g f : Nat) (a0 : Nat) (p1 : Int32) (p2 : Int32) (h : ah_H) : ah_fun (kX11_shrink g) 4 (f + 1) [.ref a0, .int p1, .int p2] h =
  (ah_fr h a0 [11] 1).bind fun v1 =>
  (ah_ob h v1).bind fun o2 => (ah_sel [(0, aX0_has g)] o2.1).bind fun F3 =>
  (ah_rI (F3 [.ref v1, .int p1] h)).bind fun z4 =>
  if (z4.1 : Int32) = 0 then
    some (some (.int (-101)), z4.2)
  else
    if (p2 : Int32) < 0 then
      some (some (.int (-102)), z4.2)
    else
      if (p2 : Int32) < 10 then
        (ah_fr z4.2 a0 [11] 1).bind fun v5 =>
        (ah_ob z4.2 v5).bind fun o6 => (ah_sel [(0, aX0_isPaired g)] o6.1).bind fun F7 =>
        (ah_rI (F7 [.ref v5, .int p1] z4.2)).bind fun z8 =>
        if (z8.1 : Int32) = 0 then
          (ah_fr z8.2 a0 [11] 1).bind fun v9 =>
          (ah_fr z8.2 v9 [0] 0).bind fun v10 =>
          (ah_lr z8.2 v10 2 p1).bind fun v11 =>
          (ah_fi z8.2 v11 [1, 3, 5, 8, 9] 1).bind fun v12 =>
          (ah_fr z8.2 a0 [11] 1).bind fun v13 =>
          (ah_fr z8.2 v13 [0] 0).bind fun v14 =>
          (ah_lr z8.2 v14 2 p1).bind fun v15 =>
          (ah_sv z8.2 v15 [1, 3, 5, 8, 9] 1 (.int p2)).bind fun h16 =>
          some (some (.int v12), h16)
        else
          some (some (.int (-103)), z8.2)
      else
        some (some (.int (-102)), z4.2) := Eq.trans rfl rfl
set_option maxRecDepth 1000000 in
set_option maxHeartbeats 8000000 in
theorem eX11_may (g f : Nat) (a0 : Nat) (h : ah_H) : ah_fun (kX11_may g) 1 (f + 1) [.ref a0] h =
  (ah_fr h a0 [11] 1).bind fun v1 =>
  (ah_ob h v1).bind fun o2 => (ah_sel [(0, aX0_isMissing g)] o2.1).bind fun F3 =>
  (ah_rI (F3 [.ref v1] h)).bind fun z4 =>
  if (z4.1 : Int32) = 0 then
    (ah_fr z4.2 a0 [11] 1).bind fun v5 =>
    (ah_ob z4.2 v5).bind fun o6 => (ah_sel [(0, aX0_swapMates g)] o6.1).bind fun F7 =>
    (ah_rV (F7 [.ref v5] z4.2)).bind fun z8 =>
    (ah_fr z8 a0 [11] 1).bind fun v9 =>
    (ah_fi z8 v9 [0] 6).bind fun v10 =>
    (ah_sv z8 v9 [0] 6 (.int (v10 + 1))).bind fun h11 =>
    (ah_fr h11 a0 [11] 1).bind fun v12 =>
    (ah_ob h11 v12).bind fun o13 => (ah_sel [(0, aX0_pairs g)] o13.1).bind fun F14 =>
    (ah_rI (F14 [.ref v12] h11)).bind fun z15 =>
    some (some (.int z15.1), z15.2)
  else
    some (some (.int (-103)), z4.2) := Eq.trans rfl rfl
set_option maxRecDepth 1000000 in
set_option maxHeartbeats 8000000 in
theorem eX11_isRowQuestion (g f : Nat) (p1 : Int32) (h : ah_H) : ah_fun (kX11_isRowQuestion g) 1 (f + 1) [.int p1] h =
  if (p1 : Int32) = 0 then
    some (some (.int 1), h)
  else
    if (p1 : Int32) = 1 then
      some (some (.int 1), h)
    else
      if (p1 : Int32) < 10 then
        some (some (.int 0), h)
      else
        if (p1 : Int32) < 17 then
          some (some (.int 1), h)
        else
          some (some (.int 0), h) := Eq.trans rfl rfl
set_option maxRecDepth 1000000 in
set_option maxHeartbeats 8000000 in
theorem eX11_mostTold (g f : Nat) (a0 : Nat) (p1 : Int32) (h : ah_H) : ah_fun (kX11_mostTold g) 2 (f + 1) [.ref a0, .int p1] h =
  if (p1 : Int32) = 0 then
    (ah_fr h a0 [11] 3).bind fun v1 =>
    (ah_fi h v1 [6] 1).bind fun v2 =>
    some (some (.int v2), h)
  else if (p1 : Int32) = 1 then
    (ah_fr h a0 [11] 3).bind fun v3 =>
    (ah_fi h v3 [6] 2).bind fun v4 =>
    some (some (.int v4), h)
  else 
    (ah_fr h a0 [11] 3).bind fun v5 =>
    (ah_ob h v5).bind fun o6 => (ah_sel [(6, aX6_mateOf g)] o6.1).bind fun F7 =>
    (ah_rI (F7 [.ref v5, .int (p1 - 10)] h)).bind fun z8 =>
    some (some (.int z8.1), z8.2) := Eq.trans rfl rfl
set_option maxRecDepth 1000000 in
set_option maxHeartbeats 8000000 in
theorem eX11_most (g f : Nat) (a0 : Nat) (p1 : Int32) (h : ah_H) : ah_fun (kX11_most g) 2 (f + 1) [.ref a0, .int p1] h =
  (ah_rI (aX11_isRowQuestion g [.int p1] h)).bind fun z1 =>
  if (z1.1 : Int32) = 0 then
    some (some (.int (-102)), z1.2)
  else
    (ah_fr z1.2 a0 [11] 1).bind fun v2 =>
    (ah_ob z1.2 v2).bind fun o3 => (ah_sel [(0, aX0_isMissing g)] o3.1).bind fun F4 =>
    (ah_rI (F4 [.ref v2] z1.2)).bind fun z5 =>
    if (z5.1 : Int32) = 0 then
      (ah_fr z5.2 a0 [11] 3).bind fun v6 =>
      (ah_fr z5.2 a0 [11] 1).bind fun v7 =>
      (ah_ob z5.2 v6).bind fun o8 => (ah_sel [(6, aX6_seek g)] o8.1).bind fun F9 =>
      (ah_rV (F9 [.ref v6, .ref v7, .int 0, .int 30] z5.2)).bind fun z10 =>
      (ah_ob z10 a0).bind fun o11 => (ah_sel [(11, aX11_mostTold g)] o11.1).bind fun F12 =>
      (ah_rI (F12 [.ref a0, .int p1] z10)).bind fun z13 =>
      some (some (.int z13.1), z13.2)
    else
      some (some (.int (-103)), z5.2) := Eq.trans rfl rfl
set_option maxRecDepth 1000000 in
set_option maxHeartbeats 8000000 in
theorem eX11_bestTold (g f : Nat) (a0 : Nat) (p1 : Int32) (h : ah_H) : ah_fun (kX11_bestTold g) 2 (f + 1) [.ref a0, .int p1] h =
  if (p1 : Int32) = 0 then
    (ah_fr h a0 [11] 3).bind fun v1 =>
    (ah_fi h v1 [6] 2).bind fun v2 =>
    some (some (.int v2), h)
  else if (p1 : Int32) = 1 then
    (ah_fr h a0 [11] 3).bind fun v3 =>
    (ah_fi h v3 [6] 3).bind fun v4 =>
    some (some (.int v4), h)
  else 
    (ah_fr h a0 [11] 3).bind fun v5 =>
    (ah_ob h v5).bind fun o6 => (ah_sel [(6, aX6_mateOf g)] o6.1).bind fun F7 =>
    (ah_rI (F7 [.ref v5, .int (p1 - 10)] h)).bind fun z8 =>
    some (some (.int z8.1), z8.2) := Eq.trans rfl rfl
set_option maxRecDepth 1000000 in
set_option maxHeartbeats 8000000 in
theorem eX11_best (g f : Nat) (a0 : Nat) (p1 : Int32) (p2 : Int32) (h : ah_H) : ah_fun (kX11_best g) 3 (f + 1) [.ref a0, .int p1, .int p2] h =
  if (p1 : Int32) < 0 then
    some (some (.int (-102)), h)
  else
    if (30 : Int32) < p1 then
      some (some (.int (-102)), h)
    else
      (ah_rI (aX11_isRowQuestion g [.int p2] h)).bind fun z1 =>
      if (z1.1 : Int32) = 0 then
        some (some (.int (-102)), z1.2)
      else
        (ah_fr z1.2 a0 [11] 1).bind fun v2 =>
        (ah_ob z1.2 v2).bind fun o3 => (ah_sel [(0, aX0_isMissing g)] o3.1).bind fun F4 =>
        (ah_rI (F4 [.ref v2] z1.2)).bind fun z5 =>
        if (z5.1 : Int32) = 0 then
          (ah_fr z5.2 a0 [11] 3).bind fun v6 =>
          (ah_fr z5.2 a0 [11] 1).bind fun v7 =>
          (ah_ob z5.2 v6).bind fun o8 => (ah_sel [(6, aX6_seek g)] o8.1).bind fun F9 =>
          (ah_rV (F9 [.ref v6, .ref v7, .int 1, .int p1] z5.2)).bind fun z10 =>
          (ah_ob z10 a0).bind fun o11 => (ah_sel [(11, aX11_bestTold g)] o11.1).bind fun F12 =>
          (ah_rI (F12 [.ref a0, .int p2] z10)).bind fun z13 =>
          some (some (.int z13.1), z13.2)
        else
          some (some (.int (-103)), z5.2) := Eq.trans rfl rfl
set_option maxRecDepth 1000000 in
set_option maxHeartbeats 8000000 in
theorem eX11_stableTold (g f : Nat) (a0 : Nat) (p1 : Int32) (h : ah_H) : ah_fun (kX11_stableTold g) 2 (f + 1) [.ref a0, .int p1] h =
  if (p1 : Int32) = 0 then
    (ah_fr h a0 [11] 3).bind fun v1 =>
    (ah_fi h v1 [6] 0).bind fun v2 =>
    some (some (.int v2), h)
  else if (p1 : Int32) = 1 then
    (ah_fr h a0 [11] 3).bind fun v3 =>
    (ah_fi h v3 [6] 1).bind fun v4 =>
    some (some (.int v4), h)
  else 
    (ah_fr h a0 [11] 3).bind fun v5 =>
    (ah_ob h v5).bind fun o6 => (ah_sel [(6, aX6_mateOf g)] o6.1).bind fun F7 =>
    (ah_rI (F7 [.ref v5, .int (p1 - 10)] h)).bind fun z8 =>
    some (some (.int z8.1), z8.2) := Eq.trans rfl rfl
set_option maxRecDepth 1000000 in
set_option maxHeartbeats 8000000 in
theorem eX11_stable (g f : Nat) (a0 : Nat) (p1 : Int32) (h : ah_H) : ah_fun (kX11_stable g) 2 (f + 1) [.ref a0, .int p1] h =
  (ah_rI (aX11_isRowQuestion g [.int p1] h)).bind fun z1 =>
  if (z1.1 : Int32) = 0 then
    some (some (.int (-102)), z1.2)
  else
    (ah_fr z1.2 a0 [11] 1).bind fun v2 =>
    (ah_ob z1.2 v2).bind fun o3 => (ah_sel [(0, aX0_isMissing g)] o3.1).bind fun F4 =>
    (ah_rI (F4 [.ref v2] z1.2)).bind fun z5 =>
    if (z5.1 : Int32) = 0 then
      (ah_fr z5.2 a0 [11] 3).bind fun v6 =>
      (ah_fr z5.2 a0 [11] 1).bind fun v7 =>
      (ah_ob z5.2 v6).bind fun o8 => (ah_sel [(6, aX6_seek g)] o8.1).bind fun F9 =>
      (ah_rV (F9 [.ref v6, .ref v7, .int 2, .int 30] z5.2)).bind fun z10 =>
      (ah_ob z10 a0).bind fun o11 => (ah_sel [(11, aX11_stableTold g)] o11.1).bind fun F12 =>
      (ah_rI (F12 [.ref a0, .int p1] z10)).bind fun z13 =>
      some (some (.int z13.1), z13.2)
    else
      some (some (.int (-103)), z5.2) := Eq.trans rfl rfl
set_option maxRecDepth 1000000 in
set_option maxHeartbeats 8000000 in
theorem eX11_happy (g f : Nat) (a0 : Nat) (p1 : Int32) (h : ah_H) : ah_fun (kX11_happy g) 3 (f + 1) [.ref a0, .int p1] h =
  (ah_fr h a0 [11] 1).bind fun v1 =>
  (ah_ob h v1).bind fun o2 => (ah_sel [(0, aX0_has g)] o2.1).bind fun F3 =>
  (ah_rI (F3 [.ref v1, .int p1] h)).bind fun z4 =>
  if (z4.1 : Int32) = 0 then
    some (some (.int (-101)), z4.2)
  else
    (ah_fr z4.2 a0 [11] 1).bind fun v5 =>
    (ah_ob z4.2 v5).bind fun o6 => (ah_sel [(0, aX0_isPaired g)] o6.1).bind fun F7 =>
    (ah_rI (F7 [.ref v5, .int p1] z4.2)).bind fun z8 =>
    if (z8.1 : Int32) = 0 then
      some (some (.int (-103)), z8.2)
    else
      (ah_fr z8.2 a0 [11] 1).bind fun v9 =>
      (ah_fr z8.2 v9 [0] 0).bind fun v10 =>
      (ah_lr z8.2 v10 2 p1).bind fun v11 =>
      (ah_fi z8.2 v11 [1, 3, 5, 8, 9] 3).bind fun v12 =>
      (ah_fr z8.2 a0 [11] 1).bind fun v13 =>
      (ah_ob z8.2 v13).bind fun o14 => (ah_sel [(0, aX0_favouriteOf g)] o14.1).bind fun F15 =>
      (ah_rI (F15 [.ref v13, .int p1] z8.2)).bind fun z16 =>
      if (z16.1 : Int32) = v12 then
        (ah_fr z16.2 a0 [11] 1).bind fun v17 =>
        (ah_ob z16.2 v17).bind fun o18 => (ah_sel [(0, aX0_favouriteOf g)] o18.1).bind fun F19 =>
        (ah_rI (F19 [.ref v17, .int v12] z16.2)).bind fun z20 =>
        if (z20.1 : Int32) = p1 then
          some (some (.int 1), z20.2)
        else
          some (some (.int 0), z20.2)
      else
        some (some (.int 0), z16.2) := Eq.trans rfl rfl
set_option maxRecDepth 1000000 in
set_option maxHeartbeats 8000000 in
theorem eX11_round (g f : Nat) (a0 : Nat) (p1 : Int32) (h : ah_H) : ah_fun (kX11_round g) 2 (f + 1) [.ref a0, .int p1] h =
  (ah_rI (aX11_isStation g [.int p1] h)).bind fun z1 =>
  if (z1.1 : Int32) = 0 then
    some (some (.int (-101)), z1.2)
  else
    (ah_fr z1.2 a0 [11] 1).bind fun v2 =>
    (ah_ob z1.2 v2).bind fun o3 => (ah_sel [(0, aX0_isMissing g)] o3.1).bind fun F4 =>
    (ah_rI (F4 [.ref v2] z1.2)).bind fun z5 =>
    if (z5.1 : Int32) = 0 then
      (ah_fr z5.2 a0 [11] 1).bind fun v6 =>
      (ah_ob z5.2 v6).bind fun o7 => (ah_sel [(0, aX0_roundFrom g)] o7.1).bind fun F8 =>
      (ah_rI (F8 [.ref v6, .int p1] z5.2)).bind fun z9 =>
      some (some (.int z9.1), z9.2)
    else
      some (some (.int (-101)), z5.2) := Eq.trans rfl rfl
set_option maxRecDepth 1000000 in
set_option maxHeartbeats 8000000 in
theorem eX11_commonDivisor (g f : Nat) (p1 : Int32) (p2 : Int32) (h : ah_H) : ah_fun (kX11_commonDivisor g) 3 (f + 1) [.int p1, .int p2] h =
  ah_run (kX11_commonDivisor g) f 2 [(0, .int p1), (1, .int p2), (2, .int p2)] [] h := Eq.trans rfl rfl
set_option maxRecDepth 1000000 in
set_option maxHeartbeats 8000000 in
theorem rX11_commonDivisor_2 (g f : Nat) (x0 : Int32) (x1 : Int32) (x2 : Int32) (h : ah_H) : ah_run (kX11_commonDivisor g) (f + 1) 2 [(0, .int x0), (1, .int x1), (2, .int x2)] [] h =
  if (1 : Int32) < x2 then
    if (x2 : Int32) = 0 then none else
    if (((x0 : Int32) - x0 / x2 * x2) : Int32) = 0 then
      if (x2 : Int32) = 0 then none else
      if (((x1 : Int32) - x1 / x2 * x2) : Int32) = 0 then
        some (some (.int x2), h)
      else
        ah_run (kX11_commonDivisor g) f 2 [(0, .int x0), (1, .int x1), (2, .int (x2 + (-1)))] [] h
    else
      ah_run (kX11_commonDivisor g) f 2 [(0, .int x0), (1, .int x1), (2, .int (x2 + (-1)))] [] h
  else
    some (some (.int 1), h) := Eq.trans rfl rfl
set_option maxRecDepth 1000000 in
set_option maxHeartbeats 8000000 in
theorem eX11_odds (g f : Nat) (a0 : Nat) (p1 : Int32) (h : ah_H) : ah_fun (kX11_odds g) 5 (f + 1) [.ref a0, .int p1] h =
  if (p1 : Int32) = 0 then
    (ah_fr h a0 [11] 1).bind fun v1 =>
    (ah_ob h v1).bind fun o2 => (ah_sel [(0, aX0_isMissing g)] o2.1).bind fun F3 =>
    (ah_rI (F3 [.ref v1] h)).bind fun z4 =>
    if (z4.1 : Int32) = 0 then
      (ah_fr z4.2 a0 [11] 1).bind fun v5 =>
      (ah_ob z4.2 v5).bind fun o6 => (ah_sel [(0, aX0_matchesAlone g)] o6.1).bind fun F7 =>
      (ah_rI (F7 [.ref v5] z4.2)).bind fun z8 =>
      (ah_fr z8.2 a0 [11] 1).bind fun v9 =>
      (ah_ob z8.2 v9).bind fun o10 => (ah_sel [(0, aX0_twosAlone g)] o10.1).bind fun F11 =>
      (ah_rI (F11 [.ref v9] z8.2)).bind fun z12 =>
      if (z12.1 : Int32) = 0 then
        if (p1 : Int32) = 0 then
          some (some (.int 0), z12.2)
        else
          some (some (.int 1), z12.2)
      else
        (ah_rI (aX11_commonDivisor g [.int z8.1, .int z12.1] z12.2)).bind fun z13 =>
        if (p1 : Int32) = 0 then
          if (z13.1 : Int32) = 0 then none else
          some (some (.int ((z8.1 : Int32) / z13.1)), z13.2)
        else
          if (z13.1 : Int32) = 0 then none else
          some (some (.int ((z12.1 : Int32) / z13.1)), z13.2)
    else
      some (some (.int (-103)), z4.2)
  else
    if (p1 : Int32) = 1 then
      (ah_fr h a0 [11] 1).bind fun v14 =>
      (ah_ob h v14).bind fun o15 => (ah_sel [(0, aX0_isMissing g)] o15.1).bind fun F16 =>
      (ah_rI (F16 [.ref v14] h)).bind fun z17 =>
      if (z17.1 : Int32) = 0 then
        (ah_fr z17.2 a0 [11] 1).bind fun v18 =>
        (ah_ob z17.2 v18).bind fun o19 => (ah_sel [(0, aX0_matchesAlone g)] o19.1).bind fun F20 =>
        (ah_rI (F20 [.ref v18] z17.2)).bind fun z21 =>
        (ah_fr z21.2 a0 [11] 1).bind fun v22 =>
        (ah_ob z21.2 v22).bind fun o23 => (ah_sel [(0, aX0_twosAlone g)] o23.1).bind fun F24 =>
        (ah_rI (F24 [.ref v22] z21.2)).bind fun z25 =>
        if (z25.1 : Int32) = 0 then
          if (p1 : Int32) = 0 then
            some (some (.int 0), z25.2)
          else
            some (some (.int 1), z25.2)
        else
          (ah_rI (aX11_commonDivisor g [.int z21.1, .int z25.1] z25.2)).bind fun z26 =>
          if (p1 : Int32) = 0 then
            if (z26.1 : Int32) = 0 then none else
            some (some (.int ((z21.1 : Int32) / z26.1)), z26.2)
          else
            if (z26.1 : Int32) = 0 then none else
            some (some (.int ((z25.1 : Int32) / z26.1)), z26.2)
      else
        some (some (.int (-103)), z17.2)
    else
      some (some (.int (-102)), h) := Eq.trans rfl rfl
set_option maxRecDepth 1000000 in
set_option maxHeartbeats 8000000 in
theorem eX11_see (g f : Nat) (a0 : Nat) (p1 : Int32) (p2 : Int32) (p3 : Int32) (h : ah_H) : ah_fun (kX11_see g) 4 (f + 1) [.ref a0, .int p1, .int p2, .int p3] h =
  (ah_fr h a0 [11] 1).bind fun v1 =>
  (ah_ob h v1).bind fun o2 => (ah_sel [(0, aX0_hasTwo g)] o2.1).bind fun F3 =>
  (ah_rI (F3 [.ref v1, .int p1, .int p2] h)).bind fun z4 =>
  if (z4.1 : Int32) = 0 then
    some (some (.int (-101)), z4.2)
  else
    if (p3 : Int32) = (-1) then
      (ah_fr z4.2 a0 [11] 1).bind fun v5 =>
      (ah_fr z4.2 v5 [0] 1).bind fun v6 =>
      (ah_ob z4.2 v6).bind fun o7 => (ah_sel [(7, aX7_note g)] o7.1).bind fun F8 =>
      (ah_rI (F8 [.ref v6, .int p1, .int p2, .int p3] z4.2)).bind fun z9 =>
      if (z9.1 : Int32) = 0 then
        some (some (.int (-104)), z9.2)
      else
        (ah_fr z9.2 a0 [11] 1).bind fun v10 =>
        (ah_fr z9.2 v10 [0] 1).bind fun v11 =>
        (ah_fi z9.2 v11 [7] 0).bind fun v12 =>
        some (some (.int v12), z9.2)
    else
      if (p3 : Int32) < 0 then
        some (some (.int (-102)), z4.2)
      else
        if (18 : Int32) < p3 then
          some (some (.int (-102)), z4.2)
        else
          (ah_fr z4.2 a0 [11] 1).bind fun v13 =>
          (ah_fr z4.2 v13 [0] 1).bind fun v14 =>
          (ah_ob z4.2 v14).bind fun o15 => (ah_sel [(7, aX7_note g)] o15.1).bind fun F16 =>
          (ah_rI (F16 [.ref v14, .int p1, .int p2, .int p3] z4.2)).bind fun z17 =>
          if (z17.1 : Int32) = 0 then
            some (some (.int (-104)), z17.2)
          else
            (ah_fr z17.2 a0 [11] 1).bind fun v18 =>
            (ah_fr z17.2 v18 [0] 1).bind fun v19 =>
            (ah_fi z17.2 v19 [7] 0).bind fun v20 =>
            some (some (.int v20), z17.2) := Eq.trans rfl rfl
set_option maxRecDepth 1000000 in
set_option maxHeartbeats 8000000 in
theorem eX11_forget (g f : Nat) (a0 : Nat) (h : ah_H) : ah_fun (kX11_forget g) 2 (f + 1) [.ref a0] h =
  (ah_fr h a0 [11] 1).bind fun v1 =>
  (ah_fr h v1 [0] 1).bind fun v2 =>
  (ah_fi h v2 [7] 0).bind fun v3 =>
  (ah_fr h a0 [11] 1).bind fun v4 =>
  (ah_fr h v4 [0] 1).bind fun v5 =>
  (ah_ob h v5).bind fun o6 => (ah_sel [(7, aX7_clear g)] o6.1).bind fun F7 =>
  (ah_rV (F7 [.ref v5] h)).bind fun z8 =>
  some (some (.int v3), z8) := Eq.trans rfl rfl
set_option maxRecDepth 1000000 in
set_option maxHeartbeats 8000000 in
theorem eX11_winters (g f : Nat) (a0 : Nat) (p1 : Int32) (p2 : Int32) (p3 : Int32) (h : ah_H) : ah_fun (kX11_winters g) 4 (f + 1) [.ref a0, .int p1, .int p2, .int p3] h =
  if (p1 : Int32) < 1 then
    some (some (.int (-102)), h)
  else
    if (60 : Int32) < p1 then
      some (some (.int (-102)), h)
    else
      if (p2 : Int32) < 0 then
        some (some (.int (-102)), h)
      else
        if (p3 : Int32) < 0 then
          some (some (.int (-102)), h)
        else
          if (2 : Int32) < p3 then
            some (some (.int (-102)), h)
          else
            (ah_fr h a0 [11] 1).bind fun v1 =>
            (ah_ob h v1).bind fun o2 => (ah_sel [(0, aX0_isMissing g)] o2.1).bind fun F3 =>
            (ah_rI (F3 [.ref v1] h)).bind fun z4 =>
            if (z4.1 : Int32) = 0 then
              (ah_fr z4.2 a0 [11] 4).bind fun v5 =>
              (ah_fr z4.2 a0 [11] 1).bind fun v6 =>
              (ah_ob z4.2 v5).bind fun o7 => (ah_sel [(10, aX10_pass g)] o7.1).bind fun F8 =>
              (ah_rV (F8 [.ref v5, .ref v6, .int p1, .int p2] z4.2)).bind fun z9 =>
              if (p3 : Int32) = 0 then
                (ah_fr z9 a0 [11] 4).bind fun v10 =>
                (ah_fi z9 v10 [10] 0).bind fun v11 =>
                some (some (.int v11), z9)
              else if (p3 : Int32) = 1 then
                (ah_fr z9 a0 [11] 4).bind fun v12 =>
                (ah_fi z9 v12 [10] 1).bind fun v13 =>
                some (some (.int v13), z9)
              else 
                (ah_fr z9 a0 [11] 4).bind fun v14 =>
                (ah_fl z9 v14 [10] 2).bind fun v15 =>
                some (some (.int ((v15 : Int64).toInt32)), z9)
            else
              some (some (.int (-103)), z4.2) := Eq.trans rfl rfl
set_option maxRecDepth 1000000 in
set_option maxHeartbeats 8000000 in
theorem eX11_image (g f : Nat) (a0 : Nat) (h : ah_H) : ah_fun (kX11_image g) 1 (f + 1) [.ref a0] h =
  (ah_fr h a0 [11] 1).bind fun v1 =>
  (ah_ob h v1).bind fun o2 => (ah_sel [(0, aX0_isMissing g)] o2.1).bind fun F3 =>
  (ah_rI (F3 [.ref v1] h)).bind fun z4 =>
  if (z4.1 : Int32) = 0 then
    (ah_fr z4.2 a0 [11] 2).bind fun v5 =>
    (ah_fr z4.2 a0 [11] 1).bind fun v6 =>
    (ah_ob z4.2 v5).bind fun o7 => (ah_sel [(2, aX2_keep g)] o7.1).bind fun F8 =>
    (ah_rV (F8 [.ref v5, .ref v6] z4.2)).bind fun z9 =>
    (ah_fr z9 a0 [11] 1).bind fun v10 =>
    (ah_fi z9 v10 [0] 3).bind fun v11 =>
    some (some (.int v11), z9)
  else
    some (some (.int (-103)), z4.2) := Eq.trans rfl rfl
set_option maxRecDepth 1000000 in
set_option maxHeartbeats 8000000 in
theorem eX11_restore (g f : Nat) (a0 : Nat) (h : ah_H) : ah_fun (kX11_restore g) 1 (f + 1) [.ref a0] h =
  (ah_fr h a0 [11] 2).bind fun v1 =>
  (ah_fi h v1 [2] 0).bind fun v2 =>
  if (v2 : Int32) = 0 then
    some (some (.int (-103)), h)
  else
    (ah_fr h a0 [11] 2).bind fun v3 =>
    (ah_fr h a0 [11] 1).bind fun v4 =>
    (ah_ob h v3).bind fun o5 => (ah_sel [(2, aX2_giveBack g)] o5.1).bind fun F6 =>
    (ah_rV (F6 [.ref v3, .ref v4] h)).bind fun z7 =>
    (ah_fr z7 a0 [11] 1).bind fun v8 =>
    (ah_fi z7 v8 [0] 3).bind fun v9 =>
    some (some (.int v9), z7) := Eq.trans rfl rfl
set_option maxRecDepth 1000000 in
set_option maxHeartbeats 8000000 in
theorem eX11_count (g f : Nat) (a0 : Nat) (p1 : Int32) (h : ah_H) : ah_fun (kX11_count g) 2 (f + 1) [.ref a0, .int p1] h =
  if (p1 : Int32) = 0 then
    (ah_fr h a0 [11] 1).bind fun v1 =>
    (ah_fi h v1 [0] 2).bind fun v2 =>
    some (some (.int v2), h)
  else if (p1 : Int32) = 1 then
    (ah_fr h a0 [11] 1).bind fun v3 =>
    (ah_ob h v3).bind fun o4 => (ah_sel [(0, aX0_pairs g)] o4.1).bind fun F5 =>
    (ah_rI (F5 [.ref v3] h)).bind fun z6 =>
    some (some (.int z6.1), z6.2)
  else if (p1 : Int32) = 2 then
    (ah_fr h a0 [11] 1).bind fun v7 =>
    (ah_ob h v7).bind fun o8 => (ah_sel [(0, aX0_likenessOfPairs g)] o8.1).bind fun F9 =>
    (ah_rI (F9 [.ref v7] h)).bind fun z10 =>
    some (some (.int z10.1), z10.2)
  else if (p1 : Int32) = 3 then
    (ah_fr h a0 [11] 1).bind fun v11 =>
    (ah_ob h v11).bind fun o12 => (ah_sel [(0, aX0_matches g)] o12.1).bind fun F13 =>
    (ah_rI (F13 [.ref v11] h)).bind fun z14 =>
    some (some (.int z14.1), z14.2)
  else if (p1 : Int32) = 4 then
    (ah_fr h a0 [11] 1).bind fun v15 =>
    (ah_ob h v15).bind fun o16 => (ah_sel [(0, aX0_alone g)] o16.1).bind fun F17 =>
    (ah_rI (F17 [.ref v15, .int 0] h)).bind fun z18 =>
    some (some (.int z18.1), z18.2)
  else if (p1 : Int32) = 5 then
    (ah_fr h a0 [11] 1).bind fun v19 =>
    (ah_ob h v19).bind fun o20 => (ah_sel [(0, aX0_alone g)] o20.1).bind fun F21 =>
    (ah_rI (F21 [.ref v19, .int 1] h)).bind fun z22 =>
    some (some (.int z22.1), z22.2)
  else if (p1 : Int32) = 6 then
    (ah_fr h a0 [11] 1).bind fun v23 =>
    (ah_fi h v23 [0] 3).bind fun v24 =>
    some (some (.int v24), h)
  else if (p1 : Int32) = 7 then
    (ah_fr h a0 [11] 1).bind fun v25 =>
    (ah_fi h v25 [0] 4).bind fun v26 =>
    some (some (.int v26), h)
  else if (p1 : Int32) = 8 then
    (ah_fr h a0 [11] 1).bind fun v27 =>
    (ah_fi h v27 [0] 5).bind fun v28 =>
    some (some (.int v28), h)
  else if (p1 : Int32) = 9 then
    (ah_fr h a0 [11] 1).bind fun v29 =>
    (ah_fi h v29 [0] 6).bind fun v30 =>
    some (some (.int v30), h)
  else if (p1 : Int32) = 10 then
    (ah_fr h a0 [11] 1).bind fun v31 =>
    (ah_fr h v31 [0] 1).bind fun v32 =>
    (ah_fi h v32 [7] 0).bind fun v33 =>
    some (some (.int v33), h)
  else if (p1 : Int32) = 11 then
    (ah_fr h a0 [11] 0).bind fun v34 =>
    (ah_fi h v34 [4] 1).bind fun v35 =>
    some (some (.int v35), h)
  else if (p1 : Int32) = 12 then
    (ah_fi h a0 [11] 5).bind fun v36 =>
    some (some (.int v36), h)
  else 
    some (some (.int (-102)), h) := Eq.trans rfl rfl
set_option maxRecDepth 1000000 in
set_option maxHeartbeats 8000000 in
theorem eX11_with (g f : Nat) (p1 : Int64) (p2 : Int64) (h : ah_H) : ah_fun (kX11_with g) 4 (f + 1) [.long p1, .long p2] h =
  some (some (.long ((31 * p1) + p2)), h) := Eq.trans rfl rfl
set_option maxRecDepth 1000000 in
set_option maxHeartbeats 8000000 in
theorem eX11_withRows (g f : Nat) (a0 : Nat) (p1 : Int64) (h : ah_H) : ah_fun (kX11_withRows g) 6 (f + 1) [.ref a0, .long p1] h =
  (ah_fr h a0 [11] 3).bind fun v1 =>
  (ah_fr h a0 [11] 1).bind fun v2 =>
  (ah_ob h v1).bind fun o3 => (ah_sel [(6, aX6_seek g)] o3.1).bind fun F4 =>
  (ah_rV (F4 [.ref v1, .ref v2, .int 0, .int 30] h)).bind fun z5 =>
  (ah_ob z5 a0).bind fun o6 => (ah_sel [(11, aX11_mostTold g)] o6.1).bind fun F7 =>
  (ah_rI (F7 [.ref a0, .int 0] z5)).bind fun z8 =>
  (ah_rL (aX11_with g [.long p1, .long ((z8.1 : Int32).toInt64)] z8.2)).bind fun z9 =>
  (ah_ob z9.2 a0).bind fun o10 => (ah_sel [(11, aX11_mostTold g)] o10.1).bind fun F11 =>
  (ah_rI (F11 [.ref a0, .int 1] z9.2)).bind fun z12 =>
  (ah_rL (aX11_with g [.long z9.1, .long ((z12.1 : Int32).toInt64)] z12.2)).bind fun z13 =>
  ah_run (kX11_withRows g) f 37 [(0, .ref a0), (3, .long z13.1), (5, .int 0)] [] z13.2 := Eq.trans rfl rfl
set_option maxRecDepth 1000000 in
set_option maxHeartbeats 8000000 in
theorem rX11_withRows_37 (g f : Nat) (x0 : Nat) (x3 : Int64) (x5 : Int32) (h : ah_H) : ah_run (kX11_withRows g) (f + 1) 37 [(0, .ref x0), (3, .long x3), (5, .int x5)] [] h =
  if (x5 : Int32) < 7 then
    (ah_ob h x0).bind fun o1 => (ah_sel [(11, aX11_mostTold g)] o1.1).bind fun F2 =>
    (ah_rI (F2 [.ref x0, .int (10 + x5)] h)).bind fun z3 =>
    (ah_rL (aX11_with g [.long x3, .long ((z3.1 : Int32).toInt64)] z3.2)).bind fun z4 =>
    ah_run (kX11_withRows g) f 37 [(0, .ref x0), (3, .long z4.1), (5, .int (x5 + 1))] [] z4.2
  else
    (ah_fr h x0 [11] 3).bind fun v5 =>
    (ah_fr h x0 [11] 1).bind fun v6 =>
    (ah_ob h v5).bind fun o7 => (ah_sel [(6, aX6_seek g)] o7.1).bind fun F8 =>
    (ah_rV (F8 [.ref v5, .ref v6, .int 1, .int 4] h)).bind fun z9 =>
    (ah_ob z9 x0).bind fun o10 => (ah_sel [(11, aX11_bestTold g)] o10.1).bind fun F11 =>
    (ah_rI (F11 [.ref x0, .int 0] z9)).bind fun z12 =>
    (ah_rL (aX11_with g [.long x3, .long ((z12.1 : Int32).toInt64)] z12.2)).bind fun z13 =>
    (ah_ob z13.2 x0).bind fun o14 => (ah_sel [(11, aX11_bestTold g)] o14.1).bind fun F15 =>
    (ah_rI (F15 [.ref x0, .int 1] z13.2)).bind fun z16 =>
    (ah_rL (aX11_with g [.long z13.1, .long ((z16.1 : Int32).toInt64)] z16.2)).bind fun z17 =>
    (ah_fr z17.2 x0 [11] 3).bind fun v18 =>
    (ah_fr z17.2 x0 [11] 1).bind fun v19 =>
    (ah_ob z17.2 v18).bind fun o20 => (ah_sel [(6, aX6_seek g)] o20.1).bind fun F21 =>
    (ah_rV (F21 [.ref v18, .ref v19, .int 2, .int 30] z17.2)).bind fun z22 =>
    (ah_ob z22 x0).bind fun o23 => (ah_sel [(11, aX11_stableTold g)] o23.1).bind fun F24 =>
    (ah_rI (F24 [.ref x0, .int 0] z22)).bind fun z25 =>
    (ah_rL (aX11_with g [.long z17.1, .long ((z25.1 : Int32).toInt64)] z25.2)).bind fun z26 =>
    (ah_ob z26.2 x0).bind fun o27 => (ah_sel [(11, aX11_stableTold g)] o27.1).bind fun F28 =>
    (ah_rI (F28 [.ref x0, .int 1] z26.2)).bind fun z29 =>
    (ah_rL (aX11_with g [.long z26.1, .long ((z29.1 : Int32).toInt64)] z29.2)).bind fun z30 =>
    some (some (.long z30.1), z30.2) := Eq.trans rfl rfl
set_option maxRecDepth 1000000 in
set_option maxHeartbeats 8000000 in
theorem eX11_digest (g f : Nat) (a0 : Nat) (h : ah_H) : ah_fun (kX11_digest g) 5 (f + 1) [.ref a0] h =
  ah_run (kX11_digest g) f 6 [(0, .ref a0), (1, .long 1129), (3, .int 0)] [] h := Eq.trans rfl rfl
set_option maxRecDepth 1000000 in
set_option maxHeartbeats 8000000 in
theorem rX11_digest_6 (g f : Nat) (x0 : Nat) (x1 : Int64) (x3 : Int32) (h : ah_H) : ah_run (kX11_digest g) (f + 1) 6 [(0, .ref x0), (1, .long x1), (3, .int x3)] [] h =
  (ah_fr h x0 [11] 1).bind fun v1 =>
  (ah_fi h v1 [0] 2).bind fun v2 =>
  if (x3 : Int32) < v2 then
    ah_run (kX11_digest g) f 20 [(0, .ref x0), (1, .long x1), (3, .int x3), (4, .int 0)] [] h
  else
    (ah_fr h x0 [11] 1).bind fun v3 =>
    (ah_ob h v3).bind fun o4 => (ah_sel [(0, aX0_isMissing g)] o4.1).bind fun F5 =>
    (ah_rI (F5 [.ref v3] h)).bind fun z6 =>
    if (z6.1 : Int32) = 0 then
      (ah_ob z6.2 x0).bind fun o7 => (ah_sel [(11, aX11_withRows g)] o7.1).bind fun F8 =>
      (ah_rL (F8 [.ref x0, .long x1] z6.2)).bind fun z9 =>
      ah_run (kX11_digest g) f 117 [(0, .ref x0), (1, .long z9.1), (3, .int 0)] [] z9.2
    else
      ah_run (kX11_digest g) f 165 [(0, .ref x0), (1, .long x1), (3, .int 0)] [] z6.2 := Eq.trans rfl rfl
set_option maxRecDepth 1000000 in
set_option maxHeartbeats 8000000 in
theorem rX11_digest_20 (g f : Nat) (x0 : Nat) (x1 : Int64) (x3 : Int32) (x4 : Int32) (h : ah_H) : ah_run (kX11_digest g) (f + 1) 20 [(0, .ref x0), (1, .long x1), (3, .int x3), (4, .int x4)] [] h =
  if (x4 : Int32) < 11 then
    (ah_ob h x0).bind fun o1 => (ah_sel [(11, aX11_single g)] o1.1).bind fun F2 =>
    (ah_rI (F2 [.ref x0, .int x3, .int x4] h)).bind fun z3 =>
    (ah_rL (aX11_with g [.long x1, .long ((z3.1 : Int32).toInt64)] z3.2)).bind fun z4 =>
    ah_run (kX11_digest g) f 20 [(0, .ref x0), (1, .long z4.1), (3, .int x3), (4, .int (x4 + 1))] [] z4.2
  else
    ah_run (kX11_digest g) f 49 [(0, .ref x0), (1, .long x1), (3, .int x3), (4, .int 0)] [] h := Eq.trans rfl rfl
set_option maxRecDepth 1000000 in
set_option maxHeartbeats 8000000 in
theorem rX11_digest_49 (g f : Nat) (x0 : Nat) (x1 : Int64) (x3 : Int32) (x4 : Int32) (h : ah_H) : ah_run (kX11_digest g) (f + 1) 49 [(0, .ref x0), (1, .long x1), (3, .int x3), (4, .int x4)] [] h =
  (ah_fr h x0 [11] 1).bind fun v1 =>
  (ah_fi h v1 [0] 2).bind fun v2 =>
  if (x4 : Int32) < v2 then
    if (x4 : Int32) = x3 then
      ah_run (kX11_digest g) f 49 [(0, .ref x0), (1, .long x1), (3, .int x3), (4, .int (x4 + 1))] [] h
    else
      (ah_fr h x0 [11] 1).bind fun v3 =>
      (ah_ob h v3).bind fun o4 => (ah_sel [(0, aX0_likenessOf g)] o4.1).bind fun F5 =>
      (ah_rI (F5 [.ref v3, .int x3, .int x4] h)).bind fun z6 =>
      (ah_rL (aX11_with g [.long x1, .long ((z6.1 : Int32).toInt64)] z6.2)).bind fun z7 =>
      ah_run (kX11_digest g) f 49 [(0, .ref x0), (1, .long z7.1), (3, .int x3), (4, .int (x4 + 1))] [] z7.2
  else
    ah_run (kX11_digest g) f 6 [(0, .ref x0), (1, .long x1), (3, .int (x3 + 1))] [] h := Eq.trans rfl rfl
set_option maxRecDepth 1000000 in
set_option maxHeartbeats 8000000 in
theorem rX11_digest_117 (g f : Nat) (x0 : Nat) (x1 : Int64) (x3 : Int32) (h : ah_H) : ah_run (kX11_digest g) (f + 1) 117 [(0, .ref x0), (1, .long x1), (3, .int x3)] [] h =
  if (x3 : Int32) < 6 then
    (ah_fr h x0 [11] 1).bind fun v1 =>
    (ah_ob h v1).bind fun o2 => (ah_sel [(0, aX0_roundFrom g)] o2.1).bind fun F3 =>
    (ah_rI (F3 [.ref v1, .int x3] h)).bind fun z4 =>
    (ah_rL (aX11_with g [.long x1, .long ((z4.1 : Int32).toInt64)] z4.2)).bind fun z5 =>
    ah_run (kX11_digest g) f 117 [(0, .ref x0), (1, .long z5.1), (3, .int (x3 + 1))] [] z5.2
  else
    (ah_ob h x0).bind fun o6 => (ah_sel [(11, aX11_odds g)] o6.1).bind fun F7 =>
    (ah_rI (F7 [.ref x0, .int 0] h)).bind fun z8 =>
    (ah_rL (aX11_with g [.long x1, .long ((z8.1 : Int32).toInt64)] z8.2)).bind fun z9 =>
    (ah_ob z9.2 x0).bind fun o10 => (ah_sel [(11, aX11_odds g)] o10.1).bind fun F11 =>
    (ah_rI (F11 [.ref x0, .int 1] z9.2)).bind fun z12 =>
    (ah_rL (aX11_with g [.long z9.1, .long ((z12.1 : Int32).toInt64)] z12.2)).bind fun z13 =>
    ah_run (kX11_digest g) f 165 [(0, .ref x0), (1, .long z13.1), (3, .int 0)] [] z13.2 := Eq.trans rfl rfl
set_option maxRecDepth 1000000 in
set_option maxHeartbeats 8000000 in
theorem rX11_digest_165 (g f : Nat) (x0 : Nat) (x1 : Int64) (x3 : Int32) (h : ah_H) : ah_run (kX11_digest g) (f + 1) 165 [(0, .ref x0), (1, .long x1), (3, .int x3)] [] h =
  (ah_fr h x0 [11] 0).bind fun v1 =>
  (ah_fi h v1 [4] 1).bind fun v2 =>
  if (x3 : Int32) < v2 then
    (ah_fr h x0 [11] 0).bind fun v3 =>
    (ah_fr h v3 [4] 0).bind fun v4 =>
    (ah_li h v4 0 x3).bind fun v5 =>
    (ah_rL (aX11_with g [.long x1, .long ((v5 : Int32).toInt64)] h)).bind fun z6 =>
    ah_run (kX11_digest g) f 165 [(0, .ref x0), (1, .long z6.1), (3, .int (x3 + 1))] [] z6.2
  else
    ah_run (kX11_digest g) f 199 [(0, .ref x0), (1, .long x1), (3, .int 0)] [] h := Eq.trans rfl rfl
set_option maxRecDepth 1000000 in
set_option maxHeartbeats 8000000 in
theorem rX11_digest_199 (g f : Nat) (x0 : Nat) (x1 : Int64) (x3 : Int32) (h : ah_H) : ah_run (kX11_digest g) (f + 1) 199 [(0, .ref x0), (1, .long x1), (3, .int x3)] [] h =
  if (x3 : Int32) < 13 then
    (ah_ob h x0).bind fun o1 => (ah_sel [(11, aX11_count g)] o1.1).bind fun F2 =>
    (ah_rI (F2 [.ref x0, .int x3] h)).bind fun z3 =>
    (ah_rL (aX11_with g [.long x1, .long ((z3.1 : Int32).toInt64)] z3.2)).bind fun z4 =>
    ah_run (kX11_digest g) f 199 [(0, .ref x0), (1, .long z4.1), (3, .int (x3 + 1))] [] z4.2
  else
    some (some (.long x1), h) := Eq.trans rfl rfl
