set_option maxRecDepth 1000000 in
set_option maxHeartbeats 8000000 in
theorem eX12_in (g f : Nat) (p1 : Int64) (p2 : Int64) (p3 : Int64) (h : ah_H) : ah_fun (kX12_in g) 6 (f + 1) [.long p1, .long p2, .long p3] h =
  if ((lg_cmp p1 p2) : Int32) < 0 then
    some (some (.int 0), h)
  else
    if (0 : Int32) < (lg_cmp p1 p3) then
      some (some (.int 0), h)
    else
      some (some (.int 1), h) := Eq.trans rfl rfl
set_option maxRecDepth 1000000 in
set_option maxHeartbeats 8000000 in
theorem eX12_copy (g f : Nat) (p1 : Nat) (p2 : Nat) (h : ah_H) : ah_fun (kX12_copy g) 3 (f + 1) [.ref p1, .ref p2] h =
  ah_run (kX12_copy g) f 2 [(0, .ref p1), (1, .ref p2), (2, .int 0)] [] h := Eq.trans rfl rfl
set_option maxRecDepth 1000000 in
set_option maxHeartbeats 8000000 in
theorem rX12_copy_2 (g f : Nat) (x0 : Nat) (x1 : Nat) (x2 : Int32) (h : ah_H) : ah_run (kX12_copy g) (f + 1) 2 [(0, .ref x0), (1, .ref x1), (2, .int x2)] [] h =
  (ah_ai h x0 0).bind fun w1 =>
  if (x2 : Int32) < (Int32.ofNat w1.1) then
    (ah_li h x0 0 x2).bind fun v2 =>
    (ah_si h x1 0 x2 v2).bind fun h3 =>
    ah_run (kX12_copy g) f 2 [(0, .ref x0), (1, .ref x1), (2, .int (x2 + 1))] [] h3
  else
    some (none, h) := Eq.trans rfl rfl
set_option maxRecDepth 1000000 in
set_option maxHeartbeats 8000000 in
theorem eX12_far (g f : Nat) (p1 : Int32) (p2 : Int32) (h : ah_H) : ah_fun (kX12_far g) 2 (f + 1) [.int p1, .int p2] h =
  if (p1 : Int32) < p2 then
    some (some (.int (p2 - p1)), h)
  else
    some (some (.int (p1 - p2)), h) := Eq.trans rfl rfl
set_option maxRecDepth 1000000 in
set_option maxHeartbeats 8000000 in
theorem eX12_ones (g f : Nat) (p1 : Int32) (h : ah_H) : ah_fun (kX12_ones g) 3 (f + 1) [.int p1] h =
  ah_run (kX12_ones g) f 4 [(0, .int p1), (1, .int 0), (2, .int 0)] [] h := Eq.trans rfl rfl
set_option maxRecDepth 1000000 in
set_option maxHeartbeats 8000000 in
theorem rX12_ones_4 (g f : Nat) (x0 : Int32) (x1 : Int32) (x2 : Int32) (h : ah_H) : ah_run (kX12_ones g) (f + 1) 4 [(0, .int x0), (1, .int x1), (2, .int x2)] [] h =
  if (x2 : Int32) < 10 then
    ah_run (kX12_ones g) f 4 [(0, .int x0), (1, .int (x1 + ((x0 >>> (x2 &&& 31)) &&& 1))), (2, .int (x2 + 1))] [] h
  else
    some (some (.int x1), h) := Eq.trans rfl rfl
set_option maxRecDepth 1000000 in
set_option maxHeartbeats 8000000 in
theorem eX12_common (g f : Nat) (p1 : Int32) (p2 : Int32) (h : ah_H) : ah_fun (kX12_common g) 5 (f + 1) [.int p1, .int p2] h =
  ah_run (kX12_common g) f 4 [(2, .int p1), (3, .int p2)] [] h := Eq.trans rfl rfl
set_option maxRecDepth 1000000 in
set_option maxHeartbeats 8000000 in
theorem rX12_common_4 (g f : Nat) (x2 : Int32) (x3 : Int32) (h : ah_H) : ah_run (kX12_common g) (f + 1) 4 [(2, .int x2), (3, .int x3)] [] h =
  if (0 : Int32) < x3 then
    if (x3 : Int32) = 0 then none else
    ah_run (kX12_common g) f 4 [(2, .int x3), (3, .int ((x2 : Int32) - x2 / x3 * x3))] [] h
  else
    some (some (.int x2), h) := Eq.trans rfl rfl
set_option maxRecDepth 1000000 in
set_option maxHeartbeats 8000000 in
theorem eX12_letter (g f : Nat) (a0 : Nat) (p1 : Int32) (h : ah_H) : ah_fun (kX12_letter g) 2 (f + 1) [.ref a0, .int p1] h =
  (ah_rI (aX12_in g [.long ((p1 : Int32).toInt64), .long 1, .long 126] h)).bind fun z1 =>
  if (z1.1 : Int32) = 0 then
    some (some (.int (-102)), z1.2)
  else
    (ah_fi z1.2 a0 [12] 1).bind fun v2 =>
    if (v2 : Int32) = 36 then
      some (some (.int (-104)), z1.2)
    else
      (ah_fr z1.2 a0 [12] 0).bind fun v3 =>
      (ah_fi z1.2 a0 [12] 1).bind fun v4 =>
      (ah_si z1.2 v3 0 v4 p1).bind fun h5 =>
      (ah_fi h5 a0 [12] 1).bind fun v6 =>
      (ah_sv h5 a0 [12] 1 (.int (v6 + 1))).bind fun h7 =>
      (ah_fi h7 a0 [12] 1).bind fun v8 =>
      some (some (.int v8), h7) := Eq.trans rfl rfl
set_option maxRecDepth 1000000 in
set_option maxHeartbeats 8000000 in
theorem eX12_blank (g f : Nat) (a0 : Nat) (h : ah_H) : ah_fun (kX12_blank g) 2 (f + 1) [.ref a0] h =
  (ah_fi h a0 [12] 1).bind fun v1 =>
  (ah_sv h a0 [12] 1 (.int 0)).bind fun h2 =>
  some (some (.int v1), h2) := Eq.trans rfl rfl
set_option maxRecDepth 1000000 in
set_option maxHeartbeats 8000000 in
theorem eX12_kindBy (g f : Nat) (p1 : Int32) (h : ah_H) : ah_fun (kX12_kindBy g) 1 (f + 1) [.int p1] h =
  if (p1 : Int32) = 103 then
    some (some (.int 1), h)
  else if (p1 : Int32) = 104 then
    some (some (.int (-1)), h)
  else if (p1 : Int32) = 105 then
    some (some (.int (-1)), h)
  else if (p1 : Int32) = 106 then
    some (some (.int (-1)), h)
  else if (p1 : Int32) = 107 then
    some (some (.int 2), h)
  else if (p1 : Int32) = 108 then
    some (some (.int (-1)), h)
  else if (p1 : Int32) = 109 then
    some (some (.int 4), h)
  else if (p1 : Int32) = 110 then
    some (some (.int (-1)), h)
  else if (p1 : Int32) = 111 then
    some (some (.int (-1)), h)
  else if (p1 : Int32) = 112 then
    some (some (.int (-1)), h)
  else if (p1 : Int32) = 113 then
    some (some (.int (-1)), h)
  else if (p1 : Int32) = 114 then
    some (some (.int 3), h)
  else if (p1 : Int32) = 115 then
    some (some (.int 0), h)
  else 
    some (some (.int (-1)), h) := Eq.trans rfl rfl
set_option maxRecDepth 1000000 in
set_option maxHeartbeats 8000000 in
theorem eX12_isGood (g f : Nat) (p1 : Int32) (p2 : Int32) (h : ah_H) : ah_fun (kX12_isGood g) 2 (f + 1) [.int p1, .int p2] h =
  if (5 : Int32) = 0 then none else
  if (((p1 : Int32) - p1 / 5 * 5) : Int32) = 0 then
    (ah_rI (aX12_kindBy g [.int p2] h)).bind fun z1 =>
    if (z1.1 : Int32) = (-1) then
      some (some (.int 0), z1.2)
    else
      some (some (.int 1), z1.2)
  else if (((p1 : Int32) - p1 / 5 * 5) : Int32) = 1 then
    (ah_rI (aX12_in g [.long ((p2 : Int32).toInt64), .long 48, .long 49] h)).bind fun z2 =>
    if (z2.1 : Int32) = 0 ∨ (z2.1 : Int32) = 1 then some (some (.int z2.1), z2.2) else none
  else if (((p1 : Int32) - p1 / 5 * 5) : Int32) = 2 then
    (ah_rI (aX12_in g [.long ((p2 : Int32).toInt64), .long 48, .long 57] h)).bind fun z3 =>
    if (z3.1 : Int32) = 0 ∨ (z3.1 : Int32) = 1 then some (some (.int z3.1), z3.2) else none
  else if (((p1 : Int32) - p1 / 5 * 5) : Int32) = 3 then
    (ah_rI (aX12_in g [.long ((p2 : Int32).toInt64), .long 48, .long 53] h)).bind fun z4 =>
    if (z4.1 : Int32) = 0 ∨ (z4.1 : Int32) = 1 then some (some (.int z4.1), z4.2) else none
  else 
    if (p2 : Int32) = 44 then
      if (p1 : Int32) < 34 then
        some (some (.int 1), h)
      else
        some (some (.int 0), h)
    else
      some (some (.int 0), h) := Eq.trans rfl rfl
set_option maxRecDepth 1000000 in
set_option maxHeartbeats 8000000 in
theorem eX12_faultOf (g f : Nat) (a0 : Nat) (h : ah_H) : ah_fun (kX12_faultOf g) 2 (f + 1) [.ref a0] h =
  ah_run (kX12_faultOf g) f 2 [(0, .ref a0), (1, .int 0)] [] h := Eq.trans rfl rfl
set_option maxRecDepth 1000000 in
set_option maxHeartbeats 8000000 in
theorem rX12_faultOf_2 (g f : Nat) (x0 : Nat) (x1 : Int32) (h : ah_H) : ah_run (kX12_faultOf g) (f + 1) 2 [(0, .ref x0), (1, .int x1)] [] h =
  (ah_fi h x0 [12] 1).bind fun v1 =>
  if (x1 : Int32) < v1 then
    (ah_fr h x0 [12] 0).bind fun v2 =>
    (ah_li h v2 0 x1).bind fun v3 =>
    (ah_rI (aX12_isGood g [.int x1, .int v3] h)).bind fun z4 =>
    if (z4.1 : Int32) = 0 then
      some (some (.int x1), z4.2)
    else
      ah_run (kX12_faultOf g) f 2 [(0, .ref x0), (1, .int (x1 + 1))] [] z4.2
  else
    some (some (.int x1), h) := Eq.trans rfl rfl
set_option maxRecDepth 1000000 in
set_option maxHeartbeats 8000000 in
theorem eX12_fault (g f : Nat) (a0 : Nat) (h : ah_H) : ah_fun (kX12_fault g) 1 (f + 1) [.ref a0] h =
  (ah_ob h a0).bind fun o1 => (ah_sel [(12, aX12_faultOf g)] o1.1).bind fun F2 =>
  (ah_rI (F2 [.ref a0] h)).bind fun z3 =>
  some (some (.int z3.1), z3.2) := Eq.trans rfl rfl
set_option maxRecDepth 1000000 in
set_option maxHeartbeats 8000000 in
theorem eX12_drawer (g f : Nat) (a0 : Nat) (h : ah_H) : ah_fun (kX12_drawer g) 2 (f + 1) [.ref a0] h =
  (ah_fi h a0 [12] 1).bind fun v1 =>
  if (v1 : Int32) < 9 then
    some (some (.int (-103)), h)
  else
    (ah_fi h a0 [12] 1).bind fun v2 =>
    if (5 : Int32) = 0 then none else
    if (((v2 : Int32) - v2 / 5 * 5) : Int32) = 4 then
      (ah_ob h a0).bind fun o3 => (ah_sel [(12, aX12_faultOf g)] o3.1).bind fun F4 =>
      (ah_rI (F4 [.ref a0] h)).bind fun z5 =>
      (ah_fi z5.2 a0 [12] 1).bind fun v6 =>
      if (z5.1 : Int32) < v6 then
        some (some (.int (-103)), z5.2)
      else
        (ah_fi z5.2 a0 [12] 1).bind fun v7 =>
        if (5 : Int32) = 0 then none else
        (ah_sv z5.2 a0 [12] 2 (.int (((v7 + 1) : Int32) / 5))).bind fun h8 =>
        ah_run (kX12_drawer g) f 47 [(0, .ref a0), (1, .int 0)] [] h8
    else
      some (some (.int (-103)), h) := Eq.trans rfl rfl
set_option maxRecDepth 1000000 in
set_option maxHeartbeats 8000000 in
theorem rX12_drawer_47 (g f : Nat) (x0 : Nat) (x1 : Int32) (h : ah_H) : ah_run (kX12_drawer g) (f + 1) 47 [(0, .ref x0), (1, .int x1)] [] h =
  (ah_fi h x0 [12] 2).bind fun v1 =>
  if (x1 : Int32) < v1 then
    (ah_fr h x0 [12] 8).bind fun v2 =>
    (ah_fr h x0 [12] 0).bind fun v3 =>
    (ah_li h v3 0 (5 * x1)).bind fun v4 =>
    (ah_rI (aX12_kindBy g [.int v4] h)).bind fun z5 =>
    (ah_si z5.2 v2 0 (2 * x1) z5.1).bind fun h6 =>
    ah_run (kX12_drawer g) f 74 [(0, .ref x0), (1, .int x1)] [] h6
  else
    ah_run (kX12_drawer g) f 148 [(0, .ref x0)] [] h := Eq.trans rfl rfl
set_option maxRecDepth 1000000 in
set_option maxHeartbeats 8000000 in
theorem rX12_drawer_74 (g f : Nat) (x0 : Nat) (x1 : Int32) (h : ah_H) : ah_run (kX12_drawer g) (f + 1) 74 [(0, .ref x0), (1, .int x1)] [] h =
  (ah_fr h x0 [12] 8).bind fun v1 =>
  (ah_fr h x0 [12] 0).bind fun v2 =>
  (ah_li h v2 0 ((5 * x1) + 1)).bind fun v3 =>
  (ah_si h v1 0 ((2 * x1) + 1) (v3 - 48)).bind fun h4 =>
  ah_run (kX12_drawer g) f 97 [(0, .ref x0), (1, .int x1)] [] h4 := Eq.trans rfl rfl
set_option maxRecDepth 1000000 in
set_option maxHeartbeats 8000000 in
theorem rX12_drawer_97 (g f : Nat) (x0 : Nat) (x1 : Int32) (h : ah_H) : ah_run (kX12_drawer g) (f + 1) 97 [(0, .ref x0), (1, .int x1)] [] h =
  (ah_fr h x0 [12] 9).bind fun v1 =>
  (ah_fr h x0 [12] 0).bind fun v2 =>
  (ah_li h v2 0 ((5 * x1) + 2)).bind fun v3 =>
  (ah_si h v1 0 x1 (v3 - 48)).bind fun h4 =>
  ah_run (kX12_drawer g) f 116 [(0, .ref x0), (1, .int x1)] [] h4 := Eq.trans rfl rfl
set_option maxRecDepth 1000000 in
set_option maxHeartbeats 8000000 in
theorem rX12_drawer_116 (g f : Nat) (x0 : Nat) (x1 : Int32) (h : ah_H) : ah_run (kX12_drawer g) (f + 1) 116 [(0, .ref x0), (1, .int x1)] [] h =
  (ah_fr h x0 [12] 10).bind fun v1 =>
  (ah_fr h x0 [12] 0).bind fun v2 =>
  (ah_li h v2 0 ((5 * x1) + 3)).bind fun v3 =>
  (ah_si h v1 0 x1 (v3 - 48)).bind fun h4 =>
  (ah_fr h4 x0 [12] 11).bind fun v5 =>
  (ah_si h4 v5 0 x1 (-1)).bind fun h6 =>
  ah_run (kX12_drawer g) f 47 [(0, .ref x0), (1, .int (x1 + 1))] [] h6 := Eq.trans rfl rfl
set_option maxRecDepth 1000000 in
set_option maxHeartbeats 8000000 in
theorem rX12_drawer_148 (g f : Nat) (x0 : Nat) (h : ah_H) : ah_run (kX12_drawer g) (f + 1) 148 [(0, .ref x0)] [] h =
  (ah_sv h x0 [12] 3 (.int 0)).bind fun h1 =>
  (ah_sv h1 x0 [12] 4 (.int 0)).bind fun h2 =>
  (ah_sv h2 x0 [12] 5 (.int 0)).bind fun h3 =>
  (ah_sv h3 x0 [12] 6 (.int 0)).bind fun h4 =>
  (ah_sv h4 x0 [12] 15 (.int 0)).bind fun h5 =>
  (ah_fi h5 x0 [12] 7).bind fun v6 =>
  (ah_sv h5 x0 [12] 7 (.int (v6 + 1))).bind fun h7 =>
  (ah_sv h7 x0 [12] 1 (.int 0)).bind fun h8 =>
  (ah_fi h8 x0 [12] 2).bind fun v9 =>
  some (some (.int v9), h8) := Eq.trans rfl rfl
set_option maxRecDepth 1000000 in
set_option maxHeartbeats 8000000 in
theorem eX12_lacks (g f : Nat) (a0 : Nat) (h : ah_H) : ah_fun (kX12_lacks g) 1 (f + 1) [.ref a0] h =
  (ah_fi h a0 [12] 2).bind fun v1 =>
  if (v1 : Int32) = 0 then
    some (some (.int 1), h)
  else
    some (some (.int 0), h) := Eq.trans rfl rfl
set_option maxRecDepth 1000000 in
set_option maxHeartbeats 8000000 in
theorem eX12_isSingle (g f : Nat) (a0 : Nat) (p1 : Int32) (h : ah_H) : ah_fun (kX12_isSingle g) 2 (f + 1) [.ref a0, .int p1] h =
  (ah_fi h a0 [12] 2).bind fun v1 =>
  (ah_rI (aX12_in g [.long ((p1 : Int32).toInt64), .long 0, .long (((v1 - 1) : Int32).toInt64)] h)).bind fun z2 =>
  if (z2.1 : Int32) = 0 ∨ (z2.1 : Int32) = 1 then some (some (.int z2.1), z2.2) else none := Eq.trans rfl rfl
set_option maxRecDepth 1000000 in
set_option maxHeartbeats 8000000 in
theorem eX12_areTwo (g f : Nat) (a0 : Nat) (p1 : Int32) (p2 : Int32) (h : ah_H) : ah_fun (kX12_areTwo g) 3 (f + 1) [.ref a0, .int p1, .int p2] h =
  (ah_ob h a0).bind fun o1 => (ah_sel [(12, aX12_isSingle g)] o1.1).bind fun F2 =>
  (ah_rI (F2 [.ref a0, .int p1] h)).bind fun z3 =>
  if (z3.1 : Int32) = 0 then
    some (some (.int 0), z3.2)
  else
    (ah_ob z3.2 a0).bind fun o4 => (ah_sel [(12, aX12_isSingle g)] o4.1).bind fun F5 =>
    (ah_rI (F5 [.ref a0, .int p2] z3.2)).bind fun z6 =>
    if (z6.1 : Int32) = 0 then
      some (some (.int 0), z6.2)
    else
      if (p1 : Int32) = p2 then
        some (some (.int 0), z6.2)
      else
        some (some (.int 1), z6.2) := Eq.trans rfl rfl
set_option maxRecDepth 1000000 in
set_option maxHeartbeats 8000000 in
theorem eX12_isGlove (g f : Nat) (a0 : Nat) (p1 : Int32) (h : ah_H) : ah_fun (kX12_isGlove g) 2 (f + 1) [.ref a0, .int p1] h =
  (ah_fr h a0 [12] 8).bind fun v1 =>
  (ah_li h v1 0 (2 * p1)).bind fun v2 =>
  if (v2 : Int32) = 1 then
    some (some (.int 1), h)
  else
    (ah_fr h a0 [12] 8).bind fun v3 =>
    (ah_li h v3 0 (2 * p1)).bind fun v4 =>
    if (v4 : Int32) = 4 then
      some (some (.int 1), h)
    else
      some (some (.int 0), h) := Eq.trans rfl rfl
set_option maxRecDepth 1000000 in
set_option maxHeartbeats 8000000 in
theorem eX12_takes (g f : Nat) (a0 : Nat) (p1 : Int32) (p2 : Int32) (h : ah_H) : ah_fun (kX12_takes g) 4 (f + 1) [.ref a0, .int p1, .int p2] h =
  (ah_fr h a0 [12] 8).bind fun v1 =>
  (ah_li h v1 0 ((2 * p1) + 1)).bind fun v2 =>
  (ah_fr h a0 [12] 8).bind fun v3 =>
  (ah_li h v3 0 ((2 * p2) + 1)).bind fun v4 =>
  if (v2 : Int32) = v4 then
    ah_run (kX12_takes g) f 28 [(0, .ref a0), (1, .int p1), (2, .int p2)] [.int 0] h
  else
    ah_run (kX12_takes g) f 28 [(0, .ref a0), (1, .int p1), (2, .int p2)] [.int 1] h := Eq.trans rfl rfl
set_option maxRecDepth 1000000 in
set_option maxHeartbeats 8000000 in
theorem rX12_takes_28 (g f : Nat) (x0 : Nat) (x1 : Int32) (x2 : Int32) (y0 : Int32) (h : ah_H) : ah_run (kX12_takes g) (f + 1) 28 [(0, .ref x0), (1, .int x1), (2, .int x2)] [.int y0] h =
  (ah_fr h x0 [12] 8).bind fun v1 =>
  (ah_li h v1 0 (2 * x1)).bind fun v2 =>
  if (v2 : Int32) = 1 then
    if (y0 : Int32) = 0 then
      some (some (.int 0), h)
    else
      (ah_ob h x0).bind fun o3 => (ah_sel [(12, aX12_isGlove g)] o3.1).bind fun F4 =>
      (ah_rI (F4 [.ref x0, .int x2] h)).bind fun z5 =>
      if (z5.1 : Int32) = 0 then
        some (some (.int 0), z5.2)
      else
        some (some (.int 1), z5.2)
  else if (v2 : Int32) = 2 then
    (ah_fr h x0 [12] 8).bind fun v6 =>
    (ah_li h v6 0 (2 * x2)).bind fun v7 =>
    if (v7 : Int32) = 2 then
      some (some (.int 1), h)
    else
      some (some (.int 0), h)
  else if (v2 : Int32) = 3 then
    if (y0 : Int32) = 0 then
      some (some (.int 0), h)
    else
      (ah_fr h x0 [12] 9).bind fun v8 =>
      (ah_li h v8 0 x1).bind fun v9 =>
      (ah_fr h x0 [12] 9).bind fun v10 =>
      (ah_li h v10 0 x2).bind fun v11 =>
      if (v9 : Int32) = v11 then
        some (some (.int 1), h)
      else
        some (some (.int 0), h)
  else if (v2 : Int32) = 4 then
    if (y0 : Int32) = 0 then
      some (some (.int 0), h)
    else
      (ah_ob h x0).bind fun o12 => (ah_sel [(12, aX12_isGlove g)] o12.1).bind fun F13 =>
      (ah_rI (F13 [.ref x0, .int x2] h)).bind fun z14 =>
      if (z14.1 : Int32) = 0 then
        some (some (.int 0), z14.2)
      else
        some (some (.int 1), z14.2)
  else 
    if (y0 : Int32) = 0 ∨ (y0 : Int32) = 1 then some (some (.int y0), h) else none := Eq.trans rfl rfl
set_option maxRecDepth 1000000 in
set_option maxHeartbeats 8000000 in
theorem eX12_mayBe (g f : Nat) (a0 : Nat) (p1 : Int32) (p2 : Int32) (h : ah_H) : ah_fun (kX12_mayBe g) 3 (f + 1) [.ref a0, .int p1, .int p2] h =
  if (p1 : Int32) = p2 then
    some (some (.int 0), h)
  else
    (ah_ob h a0).bind fun o1 => (ah_sel [(12, aX12_takes g)] o1.1).bind fun F2 =>
    (ah_rI (F2 [.ref a0, .int p1, .int p2] h)).bind fun z3 =>
    if (z3.1 : Int32) = 0 then
      some (some (.int 0), z3.2)
    else
      (ah_ob z3.2 a0).bind fun o4 => (ah_sel [(12, aX12_takes g)] o4.1).bind fun F5 =>
      (ah_rI (F5 [.ref a0, .int p2, .int p1] z3.2)).bind fun z6 =>
      if (z6.1 : Int32) = 0 then
        some (some (.int 0), z6.2)
      else
        some (some (.int 1), z6.2) := Eq.trans rfl rfl
set_option maxRecDepth 1000000 in
set_option maxHeartbeats 8000000 in
theorem eX12_apartOf (g f : Nat) (a0 : Nat) (p1 : Int32) (p2 : Int32) (h : ah_H) : ah_fun (kX12_apartOf g) 4 (f + 1) [.ref a0, .int p1, .int p2] h =
  (ah_fr h a0 [12] 9).bind fun v1 =>
  (ah_li h v1 0 p1).bind fun v2 =>
  (ah_fr h a0 [12] 9).bind fun v3 =>
  (ah_li h v3 0 p2).bind fun v4 =>
  (ah_rI (aX12_far g [.int v2, .int v4] h)).bind fun z5 =>
  (ah_fr z5.2 a0 [12] 8).bind fun v6 =>
  (ah_li z5.2 v6 0 (2 * p1)).bind fun v7 =>
  if (v7 : Int32) = 4 then
    if (2 : Int32) = 0 then none else
    some (some (.int ((z5.1 : Int32) / 2)), z5.2)
  else
    some (some (.int z5.1), z5.2) := Eq.trans rfl rfl
set_option maxRecDepth 1000000 in
set_option maxHeartbeats 8000000 in
theorem eX12_likenessOf (g f : Nat) (a0 : Nat) (p1 : Int32) (p2 : Int32) (h : ah_H) : ah_fun (kX12_likenessOf g) 3 (f + 1) [.ref a0, .int p1, .int p2] h =
  (ah_ob h a0).bind fun o1 => (ah_sel [(12, aX12_mayBe g)] o1.1).bind fun F2 =>
  (ah_rI (F2 [.ref a0, .int p1, .int p2] h)).bind fun z3 =>
  if (z3.1 : Int32) = 0 then
    some (some (.int (-1)), z3.2)
  else
    (ah_ob z3.2 a0).bind fun o4 => (ah_sel [(12, aX12_apartOf g)] o4.1).bind fun F5 =>
    (ah_rI (F5 [.ref a0, .int p1, .int p2] z3.2)).bind fun z6 =>
    (ah_ob z6.2 a0).bind fun o7 => (ah_sel [(12, aX12_apartOf g)] o7.1).bind fun F8 =>
    (ah_rI (F8 [.ref a0, .int p2, .int p1] z6.2)).bind fun z9 =>
    some (some (.int ((18 - z6.1) - z9.1)), z9.2) := Eq.trans rfl rfl
set_option maxRecDepth 1000000 in
set_option maxHeartbeats 8000000 in
theorem eX12_prefers (g f : Nat) (a0 : Nat) (p1 : Int32) (p2 : Int32) (p3 : Int32) (h : ah_H) : ah_fun (kX12_prefers g) 5 (f + 1) [.ref a0, .int p1, .int p2, .int p3] h =
  if (p3 : Int32) = (-1) then
    some (some (.int 1), h)
  else
    (ah_ob h a0).bind fun o1 => (ah_sel [(12, aX12_likenessOf g)] o1.1).bind fun F2 =>
    (ah_rI (F2 [.ref a0, .int p1, .int p2] h)).bind fun z3 =>
    (ah_ob z3.2 a0).bind fun o4 => (ah_sel [(12, aX12_likenessOf g)] o4.1).bind fun F5 =>
    (ah_rI (F5 [.ref a0, .int p1, .int p3] z3.2)).bind fun z6 =>
    if (0 : Int32) < (z3.1 - z6.1) then
      some (some (.int 1), z6.2)
    else
      if ((z3.1 - z6.1) : Int32) = 0 then
        if (p2 : Int32) < p3 then
          some (some (.int 1), z6.2)
        else
          some (some (.int 0), z6.2)
      else
        some (some (.int 0), z6.2) := Eq.trans rfl rfl
set_option maxRecDepth 1000000 in
set_option maxHeartbeats 8000000 in
theorem eX12_mayBits (g f : Nat) (a0 : Nat) (p1 : Int32) (h : ah_H) : ah_fun (kX12_mayBits g) 4 (f + 1) [.ref a0, .int p1] h =
  ah_run (kX12_mayBits g) f 4 [(0, .ref a0), (1, .int p1), (2, .int 0), (3, .int 0)] [] h := Eq.trans rfl rfl
set_option maxRecDepth 1000000 in
set_option maxHeartbeats 8000000 in
theorem rX12_mayBits_4 (g f : Nat) (x0 : Nat) (x1 : Int32) (x2 : Int32) (x3 : Int32) (h : ah_H) : ah_run (kX12_mayBits g) (f + 1) 4 [(0, .ref x0), (1, .int x1), (2, .int x2), (3, .int x3)] [] h =
  (ah_fi h x0 [12] 2).bind fun v1 =>
  if (x3 : Int32) < v1 then
    (ah_ob h x0).bind fun o2 => (ah_sel [(12, aX12_mayBe g)] o2.1).bind fun F3 =>
    (ah_rI (F3 [.ref x0, .int x1, .int x3] h)).bind fun z4 =>
    if (z4.1 : Int32) = 0 then
      ah_run (kX12_mayBits g) f 4 [(0, .ref x0), (1, .int x1), (2, .int (x2 ||| 0)), (3, .int (x3 + 1))] [] z4.2
    else
      ah_run (kX12_mayBits g) f 4 [(0, .ref x0), (1, .int x1), (2, .int (x2 ||| (1 <<< (x3 &&& 31)))), (3, .int (x3 + 1))] [] z4.2
  else
    some (some (.int x2), h) := Eq.trans rfl rfl
set_option maxRecDepth 1000000 in
set_option maxHeartbeats 8000000 in
theorem eX12_preferredOf (g f : Nat) (a0 : Nat) (p1 : Int32) (h : ah_H) : ah_fun (kX12_preferredOf g) 4 (f + 1) [.ref a0, .int p1] h =
  ah_run (kX12_preferredOf g) f 4 [(0, .ref a0), (1, .int p1), (2, .int (-1)), (3, .int 0)] [] h := Eq.trans rfl rfl
set_option maxRecDepth 1000000 in
set_option maxHeartbeats 8000000 in
theorem rX12_preferredOf_4 (g f : Nat) (x0 : Nat) (x1 : Int32) (x2 : Int32) (x3 : Int32) (h : ah_H) : ah_run (kX12_preferredOf g) (f + 1) 4 [(0, .ref x0), (1, .int x1), (2, .int x2), (3, .int x3)] [] h =
  (ah_fi h x0 [12] 2).bind fun v1 =>
  if (x3 : Int32) < v1 then
    (ah_ob h x0).bind fun o2 => (ah_sel [(12, aX12_mayBe g)] o2.1).bind fun F3 =>
    (ah_rI (F3 [.ref x0, .int x1, .int x3] h)).bind fun z4 =>
    if (z4.1 : Int32) = 0 then
      ah_run (kX12_preferredOf g) f 4 [(0, .ref x0), (1, .int x1), (2, .int x2), (3, .int (x3 + 1))] [] z4.2
    else
      (ah_ob z4.2 x0).bind fun o5 => (ah_sel [(12, aX12_prefers g)] o5.1).bind fun F6 =>
      (ah_rI (F6 [.ref x0, .int x1, .int x3, .int x2] z4.2)).bind fun z7 =>
      if (z7.1 : Int32) = 0 then
        ah_run (kX12_preferredOf g) f 4 [(0, .ref x0), (1, .int x1), (2, .int x2), (3, .int (x3 + 1))] [] z7.2
      else
        ah_run (kX12_preferredOf g) f 4 [(0, .ref x0), (1, .int x1), (2, .int x3), (3, .int (x3 + 1))] [] z7.2
  else
    some (some (.int x2), h) := Eq.trans rfl rfl
set_option maxRecDepth 1000000 in
set_option maxHeartbeats 8000000 in
theorem eX12_seenFrom (g f : Nat) (a0 : Nat) (p1 : Int32) (p2 : Int32) (h : ah_H) : ah_fun (kX12_seenFrom g) 5 (f + 1) [.ref a0, .int p1, .int p2] h =
  ah_run (kX12_seenFrom g) f 5 [(0, .ref a0), (1, .int p1), (2, .int p2), (3, .int 0), (4, .int 0)] [] h := Eq.trans rfl rfl
set_option maxRecDepth 1000000 in
set_option maxHeartbeats 8000000 in
theorem rX12_seenFrom_5 (g f : Nat) (x0 : Nat) (x1 : Int32) (x2 : Int32) (x3 : Int32) (x4 : Int32) (h : ah_H) : ah_run (kX12_seenFrom g) (f + 1) 5 [(0, .ref x0), (1, .int x1), (2, .int x2), (3, .int x3), (4, .int x4)] [] h =
  (ah_fi h x0 [12] 2).bind fun v1 =>
  if (x4 : Int32) < v1 then
    (ah_ob h x0).bind fun o2 => (ah_sel [(12, aX12_mayBe g)] o2.1).bind fun F3 =>
    (ah_rI (F3 [.ref x0, .int x1, .int x4] h)).bind fun z4 =>
    if (z4.1 : Int32) = 0 then
      ah_run (kX12_seenFrom g) f 5 [(0, .ref x0), (1, .int x1), (2, .int x2), (3, .int (x3 + 0)), (4, .int (x4 + 1))] [] z4.2
    else
      (ah_fr z4.2 x0 [12] 11).bind fun v5 =>
      (ah_li z4.2 v5 0 x4).bind fun v6 =>
      if (v6 : Int32) = (-1) then
        (ah_fr z4.2 x0 [12] 10).bind fun v7 =>
        (ah_li z4.2 v7 0 x4).bind fun v8 =>
        (ah_rI (aX12_far g [.int v8, .int x2] z4.2)).bind fun z9 =>
        if (z9.1 : Int32) < 2 then
          ah_run (kX12_seenFrom g) f 5 [(0, .ref x0), (1, .int x1), (2, .int x2), (3, .int (x3 + 1)), (4, .int (x4 + 1))] [] z9.2
        else
          ah_run (kX12_seenFrom g) f 5 [(0, .ref x0), (1, .int x1), (2, .int x2), (3, .int (x3 + 0)), (4, .int (x4 + 1))] [] z9.2
      else
        ah_run (kX12_seenFrom g) f 5 [(0, .ref x0), (1, .int x1), (2, .int x2), (3, .int (x3 + 0)), (4, .int (x4 + 1))] [] z4.2
  else
    some (some (.int x3), h) := Eq.trans rfl rfl
set_option maxRecDepth 1000000 in
set_option maxHeartbeats 8000000 in
theorem eX12_spikeOf (g f : Nat) (a0 : Nat) (p1 : Int32) (p2 : Int32) (h : ah_H) : ah_fun (kX12_spikeOf g) 5 (f + 1) [.ref a0, .int p1, .int p2] h =
  ah_run (kX12_spikeOf g) f 5 [(0, .ref a0), (1, .int p1), (2, .int p2), (3, .int 0), (4, .int 1)] [] h := Eq.trans rfl rfl
set_option maxRecDepth 1000000 in
set_option maxHeartbeats 8000000 in
theorem rX12_spikeOf_5 (g f : Nat) (x0 : Nat) (x1 : Int32) (x2 : Int32) (x3 : Int32) (x4 : Int32) (h : ah_H) : ah_run (kX12_spikeOf g) (f + 1) 5 [(0, .ref x0), (1, .int x1), (2, .int x2), (3, .int x3), (4, .int x4)] [] h =
  if (x4 : Int32) < 6 then
    (ah_ob h x0).bind fun o1 => (ah_sel [(12, aX12_seenFrom g)] o1.1).bind fun F2 =>
    (ah_rI (F2 [.ref x0, .int x1, .int x4] h)).bind fun z3 =>
    (ah_ob z3.2 x0).bind fun o4 => (ah_sel [(12, aX12_seenFrom g)] o4.1).bind fun F5 =>
    (ah_rI (F5 [.ref x0, .int x1, .int x3] z3.2)).bind fun z6 =>
    if (z6.1 : Int32) < z3.1 then
      ah_run (kX12_spikeOf g) f 5 [(0, .ref x0), (1, .int x1), (2, .int x2), (3, .int x4), (4, .int (x4 + 1))] [] z6.2
    else
      ah_run (kX12_spikeOf g) f 5 [(0, .ref x0), (1, .int x1), (2, .int x2), (3, .int x3), (4, .int (x4 + 1))] [] z6.2
  else
    if (x2 : Int32) = 7 then
      some (some (.int x3), h)
    else
      (ah_ob h x0).bind fun o7 => (ah_sel [(12, aX12_seenFrom g)] o7.1).bind fun F8 =>
      (ah_rI (F8 [.ref x0, .int x1, .int x3] h)).bind fun z9 =>
      some (some (.int z9.1), z9.2) := Eq.trans rfl rfl
set_option maxRecDepth 1000000 in
set_option maxHeartbeats 8000000 in
theorem eX12_likenessAs (g f : Nat) (a0 : Nat) (p1 : Int32) (p2 : Int32) (p3 : Int32) (h : ah_H) : ah_fun (kX12_likenessAs g) 6 (f + 1) [.ref a0, .int p1, .int p2, .int p3] h =
  (ah_fr h a0 [12] 9).bind fun v1 =>
  (ah_li h v1 0 p1).bind fun v2 =>
  (ah_fr h a0 [12] 9).bind fun v3 =>
  (ah_si h v3 0 p1 p2).bind fun h4 =>
  (ah_ob h4 a0).bind fun o5 => (ah_sel [(12, aX12_likenessOf g)] o5.1).bind fun F6 =>
  (ah_rI (F6 [.ref a0, .int p1, .int p3] h4)).bind fun z7 =>
  (ah_fr z7.2 a0 [12] 9).bind fun v8 =>
  (ah_si z7.2 v8 0 p1 v2).bind fun h9 =>
  some (some (.int z7.1), h9) := Eq.trans rfl rfl
set_option maxRecDepth 1000000 in
set_option maxHeartbeats 8000000 in
theorem eX12_sizesOf (g f : Nat) (a0 : Nat) (p1 : Int32) (h : ah_H) : ah_fun (kX12_sizesOf g) 6 (f + 1) [.ref a0, .int p1] h =
  ah_run (kX12_sizesOf g) f 4 [(0, .ref a0), (1, .int p1), (2, .int 0), (3, .int 0)] [] h := Eq.trans rfl rfl
set_option maxRecDepth 1000000 in
set_option maxHeartbeats 8000000 in
theorem rX12_sizesOf_4 (g f : Nat) (x0 : Nat) (x1 : Int32) (x2 : Int32) (x3 : Int32) (h : ah_H) : ah_run (kX12_sizesOf g) (f + 1) 4 [(0, .ref x0), (1, .int x1), (2, .int x2), (3, .int x3)] [] h =
  if (x3 : Int32) < 10 then
    ah_run (kX12_sizesOf g) f 16 [(0, .ref x0), (1, .int x1), (2, .int x2), (3, .int x3), (4, .int 1), (5, .int 0)] [] h
  else
    some (some (.int x2), h) := Eq.trans rfl rfl
set_option maxRecDepth 1000000 in
set_option maxHeartbeats 8000000 in
theorem rX12_sizesOf_16 (g f : Nat) (x0 : Nat) (x1 : Int32) (x2 : Int32) (x3 : Int32) (x4 : Int32) (x5 : Int32) (h : ah_H) : ah_run (kX12_sizesOf g) (f + 1) 16 [(0, .ref x0), (1, .int x1), (2, .int x2), (3, .int x3), (4, .int x4), (5, .int x5)] [] h =
  (ah_fi h x0 [12] 15).bind fun v1 =>
  if (x5 : Int32) < (3 * v1) then
    (ah_fr h x0 [12] 16).bind fun v2 =>
    (ah_li h v2 0 x5).bind fun v3 =>
    if (v3 : Int32) = x1 then
      if (x4 : Int32) = 0 then
        ah_run (kX12_sizesOf g) f 16 [(0, .ref x0), (1, .int x1), (2, .int x2), (3, .int x3), (4, .int 0), (5, .int (x5 + 3))] [] h
      else
        (ah_fr h x0 [12] 16).bind fun v4 =>
        (ah_li h v4 0 (x5 + 1)).bind fun v5 =>
        (ah_ob h x0).bind fun o6 => (ah_sel [(12, aX12_likenessAs g)] o6.1).bind fun F7 =>
        (ah_rI (F7 [.ref x0, .int x1, .int x3, .int v5] h)).bind fun z8 =>
        (ah_fr z8.2 x0 [12] 16).bind fun v9 =>
        (ah_li z8.2 v9 0 (x5 + 2)).bind fun v10 =>
        if (z8.1 : Int32) = v10 then
          ah_run (kX12_sizesOf g) f 16 [(0, .ref x0), (1, .int x1), (2, .int x2), (3, .int x3), (4, .int 1), (5, .int (x5 + 3))] [] z8.2
        else
          ah_run (kX12_sizesOf g) f 16 [(0, .ref x0), (1, .int x1), (2, .int x2), (3, .int x3), (4, .int 0), (5, .int (x5 + 3))] [] z8.2
    else
      ah_run (kX12_sizesOf g) f 16 [(0, .ref x0), (1, .int x1), (2, .int x2), (3, .int x3), (4, .int x4), (5, .int (x5 + 3))] [] h
  else
    if (x4 : Int32) = 0 then
      ah_run (kX12_sizesOf g) f 4 [(0, .ref x0), (1, .int x1), (2, .int (x2 ||| 0)), (3, .int (x3 + 1))] [] h
    else
      ah_run (kX12_sizesOf g) f 4 [(0, .ref x0), (1, .int x1), (2, .int (x2 ||| (1 <<< (x3 &&& 31)))), (3, .int (x3 + 1))] [] h := Eq.trans rfl rfl
set_option maxRecDepth 1000000 in
set_option maxHeartbeats 8000000 in
theorem eX12_lookOf (g f : Nat) (a0 : Nat) (p1 : Int32) (h : ah_H) : ah_fun (kX12_lookOf g) 9 (f + 1) [.ref a0, .int p1] h =
  (ah_ob h a0).bind fun o1 => (ah_sel [(12, aX12_sizesOf g)] o1.1).bind fun F2 =>
  (ah_rI (F2 [.ref a0, .int p1] h)).bind fun z3 =>
  ah_run (kX12_lookOf g) f 15 [(0, .ref a0), (1, .int p1), (2, .int z3.1), (3, .int (-1)), (4, .int 11), (5, .int 0)] [] z3.2 := Eq.trans rfl rfl
set_option maxRecDepth 1000000 in
set_option maxHeartbeats 8000000 in
theorem rX12_lookOf_15 (g f : Nat) (x0 : Nat) (x1 : Int32) (x2 : Int32) (x3 : Int32) (x4 : Int32) (x5 : Int32) (h : ah_H) : ah_run (kX12_lookOf g) (f + 1) 15 [(0, .ref x0), (1, .int x1), (2, .int x2), (3, .int x3), (4, .int x4), (5, .int x5)] [] h =
  (ah_fi h x0 [12] 2).bind fun v1 =>
  if (x5 : Int32) < v1 then
    if (x2 : Int32) = 0 then
      some (some (.int x3), h)
    else
      ah_run (kX12_lookOf g) f 31 [(0, .ref x0), (1, .int x1), (2, .int x2), (3, .int x3), (4, .int x4), (5, .int x5), (6, .int 0)] [] h
  else
    some (some (.int x3), h) := Eq.trans rfl rfl
set_option maxRecDepth 1000000 in
set_option maxHeartbeats 8000000 in
theorem rX12_lookOf_31 (g f : Nat) (x0 : Nat) (x1 : Int32) (x2 : Int32) (x3 : Int32) (x4 : Int32) (x5 : Int32) (x6 : Int32) (h : ah_H) : ah_run (kX12_lookOf g) (f + 1) 31 [(0, .ref x0), (1, .int x1), (2, .int x2), (3, .int x3), (4, .int x4), (5, .int x5), (6, .int x6)] [] h =
  if (x6 : Int32) < 20 then
    (ah_fr h x0 [12] 17).bind fun v1 =>
    (ah_si h v1 0 x6 0).bind fun h2 =>
    ah_run (kX12_lookOf g) f 31 [(0, .ref x0), (1, .int x1), (2, .int x2), (3, .int x3), (4, .int x4), (5, .int x5), (6, .int (x6 + 1))] [] h2
  else
    ah_run (kX12_lookOf g) f 58 [(0, .ref x0), (1, .int x1), (2, .int x2), (3, .int x3), (4, .int x4), (5, .int x5), (6, .int 0), (7, .int 0)] [] h := Eq.trans rfl rfl
set_option maxRecDepth 1000000 in
set_option maxHeartbeats 8000000 in
theorem rX12_lookOf_58 (g f : Nat) (x0 : Nat) (x1 : Int32) (x2 : Int32) (x3 : Int32) (x4 : Int32) (x5 : Int32) (x6 : Int32) (x7 : Int32) (h : ah_H) : ah_run (kX12_lookOf g) (f + 1) 58 [(0, .ref x0), (1, .int x1), (2, .int x2), (3, .int x3), (4, .int x4), (5, .int x5), (6, .int x6), (7, .int x7)] [] h =
  if (x7 : Int32) < 10 then
    if (x5 : Int32) = x1 then
      if (x5 : Int32) = x1 then
        ah_run (kX12_lookOf g) f 151 [(0, .ref x0), (1, .int x1), (2, .int x2), (4, .int x4), (5, .int x5), (6, .int x6)] [.int x3] h
      else
        if (x6 : Int32) < x4 then
          ah_run (kX12_lookOf g) f 151 [(0, .ref x0), (1, .int x1), (2, .int x2), (4, .int x4), (5, .int x5), (6, .int x6)] [.int x5] h
        else
          ah_run (kX12_lookOf g) f 151 [(0, .ref x0), (1, .int x1), (2, .int x2), (4, .int x4), (5, .int x5), (6, .int x6)] [.int x3] h
    else
      (ah_ob h x0).bind fun o1 => (ah_sel [(12, aX12_likenessAs g)] o1.1).bind fun F2 =>
      (ah_rI (F2 [.ref x0, .int x1, .int x7, .int x5] h)).bind fun z3 =>
      (ah_fr z3.2 x0 [12] 17).bind fun v4 =>
      (ah_li z3.2 v4 0 (z3.1 + 1)).bind fun v5 =>
      (ah_si z3.2 v4 0 (z3.1 + 1) (v5 + ((x2 >>> (x7 &&& 31)) &&& 1))).bind fun h6 =>
      (ah_fr h6 x0 [12] 17).bind fun v7 =>
      (ah_li h6 v7 0 (z3.1 + 1)).bind fun v8 =>
      if (x6 : Int32) < v8 then
        (ah_fr h6 x0 [12] 17).bind fun v9 =>
        (ah_li h6 v9 0 (z3.1 + 1)).bind fun v10 =>
        ah_run (kX12_lookOf g) f 58 [(0, .ref x0), (1, .int x1), (2, .int x2), (3, .int x3), (4, .int x4), (5, .int x5), (6, .int v10), (7, .int (x7 + 1))] [] h6
      else
        ah_run (kX12_lookOf g) f 58 [(0, .ref x0), (1, .int x1), (2, .int x2), (3, .int x3), (4, .int x4), (5, .int x5), (6, .int x6), (7, .int (x7 + 1))] [] h6
  else
    if (x5 : Int32) = x1 then
      ah_run (kX12_lookOf g) f 151 [(0, .ref x0), (1, .int x1), (2, .int x2), (4, .int x4), (5, .int x5), (6, .int x6)] [.int x3] h
    else
      if (x6 : Int32) < x4 then
        ah_run (kX12_lookOf g) f 151 [(0, .ref x0), (1, .int x1), (2, .int x2), (4, .int x4), (5, .int x5), (6, .int x6)] [.int x5] h
      else
        ah_run (kX12_lookOf g) f 151 [(0, .ref x0), (1, .int x1), (2, .int x2), (4, .int x4), (5, .int x5), (6, .int x6)] [.int x3] h := Eq.trans rfl rfl
set_option maxRecDepth 1000000 in
set_option maxHeartbeats 8000000 in
theorem rX12_lookOf_151 (g f : Nat) (x0 : Nat) (x1 : Int32) (x2 : Int32) (x4 : Int32) (x5 : Int32) (x6 : Int32) (y0 : Int32) (h : ah_H) : ah_run (kX12_lookOf g) (f + 1) 151 [(0, .ref x0), (1, .int x1), (2, .int x2), (4, .int x4), (5, .int x5), (6, .int x6)] [.int y0] h =
  if (x5 : Int32) = x1 then
    ah_run (kX12_lookOf g) f 15 [(0, .ref x0), (1, .int x1), (2, .int x2), (3, .int y0), (4, .int x4), (5, .int (x5 + 1))] [] h
  else
    if (x6 : Int32) < x4 then
      ah_run (kX12_lookOf g) f 15 [(0, .ref x0), (1, .int x1), (2, .int x2), (3, .int y0), (4, .int x6), (5, .int (x5 + 1))] [] h
    else
      ah_run (kX12_lookOf g) f 15 [(0, .ref x0), (1, .int x1), (2, .int x2), (3, .int y0), (4, .int x4), (5, .int (x5 + 1))] [] h := Eq.trans rfl rfl
set_option maxRecDepth 1000000 in
set_option maxHeartbeats 8000000 in
theorem eX12_tellSingle (g f : Nat) (a0 : Nat) (p1 : Int32) (p2 : Int32) (h : ah_H) : ah_fun (kX12_tellSingle g) 3 (f + 1) [.ref a0, .int p1, .int p2] h =
  if (p2 : Int32) = 0 then
    (ah_fr h a0 [12] 8).bind fun v1 =>
    (ah_li h v1 0 ((2 * p1) + p2)).bind fun v2 =>
    some (some (.int v2), h)
  else if (p2 : Int32) = 1 then
    (ah_fr h a0 [12] 8).bind fun v3 =>
    (ah_li h v3 0 ((2 * p1) + p2)).bind fun v4 =>
    some (some (.int v4), h)
  else if (p2 : Int32) = 2 then
    (ah_fr h a0 [12] 9).bind fun v5 =>
    (ah_li h v5 0 p1).bind fun v6 =>
    some (some (.int v6), h)
  else if (p2 : Int32) = 3 then
    (ah_fr h a0 [12] 10).bind fun v7 =>
    (ah_li h v7 0 p1).bind fun v8 =>
    some (some (.int v8), h)
  else if (p2 : Int32) = 4 then
    (ah_fr h a0 [12] 11).bind fun v9 =>
    (ah_li h v9 0 p1).bind fun v10 =>
    some (some (.int v10), h)
  else if (p2 : Int32) = 5 then
    (ah_ob h a0).bind fun o11 => (ah_sel [(12, aX12_mayBits g)] o11.1).bind fun F12 =>
    (ah_rI (F12 [.ref a0, .int p1] h)).bind fun z13 =>
    some (some (.int z13.1), z13.2)
  else if (p2 : Int32) = 6 then
    (ah_ob h a0).bind fun o14 => (ah_sel [(12, aX12_preferredOf g)] o14.1).bind fun F15 =>
    (ah_rI (F15 [.ref a0, .int p1] h)).bind fun z16 =>
    some (some (.int z16.1), z16.2)
  else if (p2 : Int32) = 7 then
    (ah_ob h a0).bind fun o17 => (ah_sel [(12, aX12_spikeOf g)] o17.1).bind fun F18 =>
    (ah_rI (F18 [.ref a0, .int p1, .int p2] h)).bind fun z19 =>
    some (some (.int z19.1), z19.2)
  else if (p2 : Int32) = 8 then
    (ah_ob h a0).bind fun o20 => (ah_sel [(12, aX12_spikeOf g)] o20.1).bind fun F21 =>
    (ah_rI (F21 [.ref a0, .int p1, .int p2] h)).bind fun z22 =>
    some (some (.int z22.1), z22.2)
  else if (p2 : Int32) = 9 then
    (ah_ob h a0).bind fun o23 => (ah_sel [(12, aX12_sizesOf g)] o23.1).bind fun F24 =>
    (ah_rI (F24 [.ref a0, .int p1] h)).bind fun z25 =>
    some (some (.int z25.1), z25.2)
  else if (p2 : Int32) = 10 then
    (ah_ob h a0).bind fun o26 => (ah_sel [(12, aX12_lookOf g)] o26.1).bind fun F27 =>
    (ah_rI (F27 [.ref a0, .int p1] h)).bind fun z28 =>
    some (some (.int z28.1), z28.2)
  else 
    some (some (.int (-102)), h) := Eq.trans rfl rfl
set_option maxRecDepth 1000000 in
set_option maxHeartbeats 8000000 in
theorem eX12_single (g f : Nat) (a0 : Nat) (p1 : Int32) (p2 : Int32) (h : ah_H) : ah_fun (kX12_single g) 3 (f + 1) [.ref a0, .int p1, .int p2] h =
  (ah_ob h a0).bind fun o1 => (ah_sel [(12, aX12_isSingle g)] o1.1).bind fun F2 =>
  (ah_rI (F2 [.ref a0, .int p1] h)).bind fun z3 =>
  if (z3.1 : Int32) = 0 then
    some (some (.int (-101)), z3.2)
  else
    (ah_ob z3.2 a0).bind fun o4 => (ah_sel [(12, aX12_tellSingle g)] o4.1).bind fun F5 =>
    (ah_rI (F5 [.ref a0, .int p1, .int p2] z3.2)).bind fun z6 =>
    some (some (.int z6.1), z6.2) := Eq.trans rfl rfl
set_option maxRecDepth 1000000 in
set_option maxHeartbeats 8000000 in
theorem eX12_as (g f : Nat) (a0 : Nat) (p1 : Int32) (p2 : Int32) (h : ah_H) : ah_fun (kX12_as g) 4 (f + 1) [.ref a0, .int p1, .int p2] h =
  (ah_ob h a0).bind fun o1 => (ah_sel [(12, aX12_isSingle g)] o1.1).bind fun F2 =>
  (ah_rI (F2 [.ref a0, .int p1] h)).bind fun z3 =>
  if (z3.1 : Int32) = 0 then
    some (some (.int (-101)), z3.2)
  else
    (ah_rI (aX12_in g [.long ((p2 : Int32).toInt64), .long 0, .long 4] z3.2)).bind fun z4 =>
    if (z4.1 : Int32) = 0 then
      some (some (.int (-102)), z4.2)
    else
      if (p2 : Int32) = 0 then
        if (1 : Int32) = 0 then
          some (some (.int (-1)), z4.2)
        else
          some (some (.int p1), z4.2)
      else
        (ah_fr z4.2 a0 [12] 8).bind fun v5 =>
        (ah_li z4.2 v5 0 (2 * p1)).bind fun v6 =>
        if (p2 : Int32) = v6 then
          if (1 : Int32) = 0 then
            some (some (.int (-1)), z4.2)
          else
            some (some (.int p1), z4.2)
        else
          if (p2 : Int32) = 1 then
            (ah_ob z4.2 a0).bind fun o7 => (ah_sel [(12, aX12_isGlove g)] o7.1).bind fun F8 =>
            (ah_rI (F8 [.ref a0, .int p1] z4.2)).bind fun z9 =>
            if (z9.1 : Int32) = 0 then
              if (0 : Int32) = 0 then
                some (some (.int (-1)), z9.2)
              else
                some (some (.int p1), z9.2)
            else
              if (1 : Int32) = 0 then
                some (some (.int (-1)), z9.2)
              else
                some (some (.int p1), z9.2)
          else
            if (0 : Int32) = 0 then
              some (some (.int (-1)), z4.2)
            else
              some (some (.int p1), z4.2) := Eq.trans rfl rfl
set_option maxRecDepth 1000000 in
set_option maxHeartbeats 8000000 in
theorem eX12_likeness (g f : Nat) (a0 : Nat) (p1 : Int32) (p2 : Int32) (h : ah_H) : ah_fun (kX12_likeness g) 3 (f + 1) [.ref a0, .int p1, .int p2] h =
  (ah_ob h a0).bind fun o1 => (ah_sel [(12, aX12_areTwo g)] o1.1).bind fun F2 =>
  (ah_rI (F2 [.ref a0, .int p1, .int p2] h)).bind fun z3 =>
  if (z3.1 : Int32) = 0 then
    some (some (.int (-101)), z3.2)
  else
    (ah_ob z3.2 a0).bind fun o4 => (ah_sel [(12, aX12_likenessOf g)] o4.1).bind fun F5 =>
    (ah_rI (F5 [.ref a0, .int p1, .int p2] z3.2)).bind fun z6 =>
    some (some (.int z6.1), z6.2) := Eq.trans rfl rfl
set_option maxRecDepth 1000000 in
set_option maxHeartbeats 8000000 in
theorem eX12_apart (g f : Nat) (a0 : Nat) (p1 : Int32) (p2 : Int32) (h : ah_H) : ah_fun (kX12_apart g) 3 (f + 1) [.ref a0, .int p1, .int p2] h =
  (ah_ob h a0).bind fun o1 => (ah_sel [(12, aX12_areTwo g)] o1.1).bind fun F2 =>
  (ah_rI (F2 [.ref a0, .int p1, .int p2] h)).bind fun z3 =>
  if (z3.1 : Int32) = 0 then
    some (some (.int (-101)), z3.2)
  else
    (ah_ob z3.2 a0).bind fun o4 => (ah_sel [(12, aX12_apartOf g)] o4.1).bind fun F5 =>
    (ah_rI (F5 [.ref a0, .int p1, .int p2] z3.2)).bind fun z6 =>
    some (some (.int z6.1), z6.2) := Eq.trans rfl rfl
set_option maxRecDepth 1000000 in
set_option maxHeartbeats 8000000 in
theorem eX12_carry (g f : Nat) (a0 : Nat) (p1 : Int32) (p2 : Int32) (h : ah_H) : ah_fun (kX12_carry g) 4 (f + 1) [.ref a0, .int p1, .int p2] h =
  (ah_ob h a0).bind fun o1 => (ah_sel [(12, aX12_isSingle g)] o1.1).bind fun F2 =>
  (ah_rI (F2 [.ref a0, .int p1] h)).bind fun z3 =>
  if (z3.1 : Int32) = 0 then
    some (some (.int (-101)), z3.2)
  else
    (ah_rI (aX12_in g [.long ((p2 : Int32).toInt64), .long 0, .long 5] z3.2)).bind fun z4 =>
    if (z4.1 : Int32) = 0 then
      some (some (.int (-101)), z4.2)
    else
      (ah_fr z4.2 a0 [12] 11).bind fun v5 =>
      (ah_li z4.2 v5 0 p1).bind fun v6 =>
      if (v6 : Int32) = (-1) then
        (ah_fr z4.2 a0 [12] 10).bind fun v7 =>
        (ah_li z4.2 v7 0 p1).bind fun v8 =>
        (ah_rI (aX12_far g [.int v8, .int p2] z4.2)).bind fun z9 =>
        (ah_fr z9.2 a0 [12] 10).bind fun v10 =>
        (ah_si z9.2 v10 0 p1 p2).bind fun h11 =>
        (ah_fi h11 a0 [12] 3).bind fun v12 =>
        (ah_sv h11 a0 [12] 3 (.int (v12 + z9.1))).bind fun h13 =>
        some (some (.int z9.1), h13)
      else
        some (some (.int (-103)), z4.2) := Eq.trans rfl rfl
set_option maxRecDepth 1000000 in
set_option maxHeartbeats 8000000 in
theorem eX12_bring (g f : Nat) (a0 : Nat) (p1 : Int32) (p2 : Int32) (h : ah_H) : ah_fun (kX12_bring g) 3 (f + 1) [.ref a0, .int p1, .int p2] h =
  (ah_ob h a0).bind fun o1 => (ah_sel [(12, aX12_areTwo g)] o1.1).bind fun F2 =>
  (ah_rI (F2 [.ref a0, .int p1, .int p2] h)).bind fun z3 =>
  if (z3.1 : Int32) = 0 then
    some (some (.int (-101)), z3.2)
  else
    (ah_fr z3.2 a0 [12] 11).bind fun v4 =>
    (ah_li z3.2 v4 0 p1).bind fun v5 =>
    if (v5 : Int32) = (-1) then
      (ah_fr z3.2 a0 [12] 11).bind fun v6 =>
      (ah_li z3.2 v6 0 p2).bind fun v7 =>
      if (v7 : Int32) = (-1) then
        (ah_ob z3.2 a0).bind fun o8 => (ah_sel [(12, aX12_mayBe g)] o8.1).bind fun F9 =>
        (ah_rI (F9 [.ref a0, .int p1, .int p2] z3.2)).bind fun z10 =>
        if (z10.1 : Int32) = 0 then
          some (some (.int (-103)), z10.2)
        else
          (ah_fr z10.2 a0 [12] 10).bind fun v11 =>
          (ah_li z10.2 v11 0 p1).bind fun v12 =>
          (ah_fr z10.2 a0 [12] 10).bind fun v13 =>
          (ah_li z10.2 v13 0 p2).bind fun v14 =>
          if (v12 : Int32) = v14 then
            (ah_fr z10.2 a0 [12] 11).bind fun v15 =>
            (ah_si z10.2 v15 0 p1 p2).bind fun h16 =>
            (ah_fr h16 a0 [12] 11).bind fun v17 =>
            (ah_si h16 v17 0 p2 p1).bind fun h18 =>
            (ah_fi h18 a0 [12] 4).bind fun v19 =>
            (ah_sv h18 a0 [12] 4 (.int (v19 + 1))).bind fun h20 =>
            (ah_ob h20 a0).bind fun o21 => (ah_sel [(12, aX12_likenessOf g)] o21.1).bind fun F22 =>
            (ah_rI (F22 [.ref a0, .int p1, .int p2] h20)).bind fun z23 =>
            some (some (.int z23.1), z23.2)
          else
            some (some (.int (-103)), z10.2)
      else
        some (some (.int (-103)), z3.2)
    else
      some (some (.int (-103)), z3.2) := Eq.trans rfl rfl
set_option maxRecDepth 1000000 in
set_option maxHeartbeats 8000000 in
theorem eX12_part (g f : Nat) (a0 : Nat) (p1 : Int32) (h : ah_H) : ah_fun (kX12_part g) 3 (f + 1) [.ref a0, .int p1] h =
  (ah_ob h a0).bind fun o1 => (ah_sel [(12, aX12_isSingle g)] o1.1).bind fun F2 =>
  (ah_rI (F2 [.ref a0, .int p1] h)).bind fun z3 =>
  if (z3.1 : Int32) = 0 then
    some (some (.int (-101)), z3.2)
  else
    (ah_fr z3.2 a0 [12] 11).bind fun v4 =>
    (ah_li z3.2 v4 0 p1).bind fun v5 =>
    if (v5 : Int32) = (-1) then
      some (some (.int (-103)), z3.2)
    else
      (ah_fr z3.2 a0 [12] 11).bind fun v6 =>
      (ah_si z3.2 v6 0 p1 (-1)).bind fun h7 =>
      (ah_fr h7 a0 [12] 11).bind fun v8 =>
      (ah_si h7 v8 0 v5 (-1)).bind fun h9 =>
      (ah_fi h9 a0 [12] 5).bind fun v10 =>
      (ah_sv h9 a0 [12] 5 (.int (v10 + 1))).bind fun h11 =>
      some (some (.int v5), h11) := Eq.trans rfl rfl
set_option maxRecDepth 1000000 in
set_option maxHeartbeats 8000000 in
theorem eX12_shrink (g f : Nat) (a0 : Nat) (p1 : Int32) (p2 : Int32) (h : ah_H) : ah_fun (kX12_shrink g) 4 (f + 1) [.ref a0, .int p1, .int p2] h =
  (ah_ob h a0).bind fun o1 => (ah_sel [(12, aX12_isSingle g)] o1.1).bind fun F2 =>
  (ah_rI (F2 [.ref a0, .int p1] h)).bind fun z3 =>
  if (z3.1 : Int32) = 0 then
    some (some (.int (-101)), z3.2)
  else
    (ah_rI (aX12_in g [.long ((p2 : Int32).toInt64), .long 0, .long 9] z3.2)).bind fun z4 =>
    if (z4.1 : Int32) = 0 then
      some (some (.int (-102)), z4.2)
    else
      (ah_fr z4.2 a0 [12] 11).bind fun v5 =>
      (ah_li z4.2 v5 0 p1).bind fun v6 =>
      if (v6 : Int32) = (-1) then
        (ah_fr z4.2 a0 [12] 9).bind fun v7 =>
        (ah_li z4.2 v7 0 p1).bind fun v8 =>
        (ah_fr z4.2 a0 [12] 9).bind fun v9 =>
        (ah_si z4.2 v9 0 p1 p2).bind fun h10 =>
        some (some (.int v8), h10)
      else
        some (some (.int (-103)), z4.2) := Eq.trans rfl rfl
set_option maxRecDepth 1000000 in
set_option maxHeartbeats 8000000 in
theorem eX12_pairsOf (g f : Nat) (a0 : Nat) (p1 : Nat) (h : ah_H) : ah_fun (kX12_pairsOf g) 4 (f + 1) [.ref a0, .ref p1] h =
  ah_run (kX12_pairsOf g) f 4 [(0, .ref a0), (1, .ref p1), (2, .int 0), (3, .int 0)] [] h := Eq.trans rfl rfl
set_option maxRecDepth 1000000 in
set_option maxHeartbeats 8000000 in
theorem rX12_pairsOf_4 (g f : Nat) (x0 : Nat) (x1 : Nat) (x2 : Int32) (x3 : Int32) (h : ah_H) : ah_run (kX12_pairsOf g) (f + 1) 4 [(0, .ref x0), (1, .ref x1), (2, .int x2), (3, .int x3)] [] h =
  (ah_fi h x0 [12] 2).bind fun v1 =>
  if (x3 : Int32) < v1 then
    (ah_li h x1 0 x3).bind fun v2 =>
    if (x3 : Int32) < v2 then
      ah_run (kX12_pairsOf g) f 4 [(0, .ref x0), (1, .ref x1), (2, .int (x2 + 1)), (3, .int (x3 + 1))] [] h
    else
      ah_run (kX12_pairsOf g) f 4 [(0, .ref x0), (1, .ref x1), (2, .int (x2 + 0)), (3, .int (x3 + 1))] [] h
  else
    some (some (.int x2), h) := Eq.trans rfl rfl
set_option maxRecDepth 1000000 in
set_option maxHeartbeats 8000000 in
theorem eX12_may (g f : Nat) (a0 : Nat) (h : ah_H) : ah_fun (kX12_may g) 3 (f + 1) [.ref a0] h =
  (ah_ob h a0).bind fun o1 => (ah_sel [(12, aX12_lacks g)] o1.1).bind fun F2 =>
  (ah_rI (F2 [.ref a0] h)).bind fun z3 =>
  if (z3.1 : Int32) = 0 then
    (ah_fr z3.2 a0 [12] 11).bind fun v4 =>
    (ah_fr z3.2 a0 [12] 12).bind fun v5 =>
    (ah_rV (aX12_copy g [.ref v4, .ref v5] z3.2)).bind fun z6 =>
    ah_run (kX12_may g) f 23 [(0, .ref a0), (1, .int 0)] [] z6
  else
    some (some (.int (-103)), z3.2) := Eq.trans rfl rfl
set_option maxRecDepth 1000000 in
set_option maxHeartbeats 8000000 in
theorem rX12_may_23 (g f : Nat) (x0 : Nat) (x1 : Int32) (h : ah_H) : ah_run (kX12_may g) (f + 1) 23 [(0, .ref x0), (1, .int x1)] [] h =
  (ah_fi h x0 [12] 2).bind fun v1 =>
  if (x1 : Int32) < v1 then
    (ah_fr h x0 [12] 11).bind fun v2 =>
    (ah_si h v2 0 x1 (-1)).bind fun h3 =>
    ah_run (kX12_may g) f 23 [(0, .ref x0), (1, .int (x1 + 1))] [] h3
  else
    ah_run (kX12_may g) f 46 [(0, .ref x0), (1, .int 0)] [] h := Eq.trans rfl rfl
set_option maxRecDepth 1000000 in
set_option maxHeartbeats 8000000 in
theorem rX12_may_46 (g f : Nat) (x0 : Nat) (x1 : Int32) (h : ah_H) : ah_run (kX12_may g) (f + 1) 46 [(0, .ref x0), (1, .int x1)] [] h =
  (ah_fi h x0 [12] 2).bind fun v1 =>
  if (x1 : Int32) < v1 then
    ah_run (kX12_may g) f 56 [(0, .ref x0), (1, .int x1), (2, .int 0)] [] h
  else
    (ah_fi h x0 [12] 6).bind fun v2 =>
    (ah_sv h x0 [12] 6 (.int (v2 + 1))).bind fun h3 =>
    (ah_fr h3 x0 [12] 11).bind fun v4 =>
    (ah_ob h3 x0).bind fun o5 => (ah_sel [(12, aX12_pairsOf g)] o5.1).bind fun F6 =>
    (ah_rI (F6 [.ref x0, .ref v4] h3)).bind fun z7 =>
    some (some (.int z7.1), z7.2) := Eq.trans rfl rfl
set_option maxRecDepth 1000000 in
set_option maxHeartbeats 8000000 in
theorem rX12_may_56 (g f : Nat) (x0 : Nat) (x1 : Int32) (x2 : Int32) (h : ah_H) : ah_run (kX12_may g) (f + 1) 56 [(0, .ref x0), (1, .int x1), (2, .int x2)] [] h =
  (ah_fi h x0 [12] 2).bind fun v1 =>
  if (x2 : Int32) < v1 then
    (ah_fr h x0 [12] 12).bind fun v2 =>
    (ah_li h v2 0 x1).bind fun v3 =>
    if (v3 : Int32) = (-1) then
      ah_run (kX12_may g) f 46 [(0, .ref x0), (1, .int (x1 + 1))] [] h
    else
      (ah_fr h x0 [12] 11).bind fun v4 =>
      (ah_li h v4 0 x1).bind fun v5 =>
      if (v5 : Int32) = (-1) then
        (ah_fr h x0 [12] 12).bind fun v6 =>
        (ah_li h v6 0 x2).bind fun v7 =>
        if (v7 : Int32) = (-1) then
          ah_run (kX12_may g) f 56 [(0, .ref x0), (1, .int x1), (2, .int (x2 + 1))] [] h
        else
          (ah_fr h x0 [12] 11).bind fun v8 =>
          (ah_li h v8 0 x2).bind fun v9 =>
          if (v9 : Int32) = (-1) then
            (ah_fr h x0 [12] 12).bind fun v10 =>
            (ah_li h v10 0 x1).bind fun v11 =>
            if (v11 : Int32) = x2 then
              ah_run (kX12_may g) f 56 [(0, .ref x0), (1, .int x1), (2, .int (x2 + 1))] [] h
            else
              (ah_ob h x0).bind fun o12 => (ah_sel [(12, aX12_mayBe g)] o12.1).bind fun F13 =>
              (ah_rI (F13 [.ref x0, .int x1, .int x2] h)).bind fun z14 =>
              if (z14.1 : Int32) = 0 then
                ah_run (kX12_may g) f 56 [(0, .ref x0), (1, .int x1), (2, .int (x2 + 1))] [] z14.2
              else
                (ah_fr z14.2 x0 [12] 11).bind fun v15 =>
                (ah_si z14.2 v15 0 x1 x2).bind fun h16 =>
                (ah_fr h16 x0 [12] 11).bind fun v17 =>
                (ah_si h16 v17 0 x2 x1).bind fun h18 =>
                ah_run (kX12_may g) f 56 [(0, .ref x0), (1, .int x1), (2, .int (x2 + 1))] [] h18
          else
            ah_run (kX12_may g) f 56 [(0, .ref x0), (1, .int x1), (2, .int (x2 + 1))] [] h
      else
        ah_run (kX12_may g) f 46 [(0, .ref x0), (1, .int (x1 + 1))] [] h
  else
    ah_run (kX12_may g) f 46 [(0, .ref x0), (1, .int (x1 + 1))] [] h := Eq.trans rfl rfl
set_option maxRecDepth 1000000 in
set_option maxHeartbeats 8000000 in
theorem eX12_firstRow (g f : Nat) (a0 : Nat) (h : ah_H) : ah_fun (kX12_firstRow g) 2 (f + 1) [.ref a0] h =
  ah_run (kX12_firstRow g) f 2 [(0, .ref a0), (1, .int 0)] [] h := Eq.trans rfl rfl
set_option maxRecDepth 1000000 in
set_option maxHeartbeats 8000000 in
theorem rX12_firstRow_2 (g f : Nat) (x0 : Nat) (x1 : Int32) (h : ah_H) : ah_run (kX12_firstRow g) (f + 1) 2 [(0, .ref x0), (1, .int x1)] [] h =
  if (x1 : Int32) < 7 then
    (ah_fr h x0 [12] 13).bind fun v1 =>
    (ah_si h v1 0 x1 (-1)).bind fun h2 =>
    (ah_fr h2 x0 [12] 14).bind fun v3 =>
    (ah_si h2 v3 0 x1 (-1)).bind fun h4 =>
    ah_run (kX12_firstRow g) f 2 [(0, .ref x0), (1, .int (x1 + 1))] [] h4
  else
    some (none, h) := Eq.trans rfl rfl
set_option maxRecDepth 1000000 in
set_option maxHeartbeats 8000000 in
theorem eX12_nextRow (g f : Nat) (a0 : Nat) (h : ah_H) : ah_fun (kX12_nextRow g) 4 (f + 1) [.ref a0] h =
  (ah_fi h a0 [12] 2).bind fun v1 =>
  ah_run (kX12_nextRow g) f 7 [(0, .ref a0), (1, .int (v1 - 1))] [] h := Eq.trans rfl rfl
set_option maxRecDepth 1000000 in
set_option maxHeartbeats 8000000 in
theorem rX12_nextRow_7 (g f : Nat) (x0 : Nat) (x1 : Int32) (h : ah_H) : ah_run (kX12_nextRow g) (f + 1) 7 [(0, .ref x0), (1, .int x1)] [] h =
  if (x1 : Int32) < 0 then
    some (some (.int 0), h)
  else
    (ah_fr h x0 [12] 13).bind fun v1 =>
    (ah_li h v1 0 x1).bind fun v2 =>
    if (v2 : Int32) = (-1) then
      if (v2 : Int32) = (-1) then
        if (v2 : Int32) = (-1) then
          ah_run (kX12_nextRow g) f 60 [(0, .ref x0), (1, .int x1), (3, .int (x1 + 1))] [] h
        else
          ah_run (kX12_nextRow g) f 60 [(0, .ref x0), (1, .int x1), (3, .int (v2 + 1))] [] h
      else
        (ah_fr h x0 [12] 13).bind fun v3 =>
        (ah_si h v3 0 v2 (-1)).bind fun h4 =>
        (ah_fr h4 x0 [12] 13).bind fun v5 =>
        (ah_si h4 v5 0 x1 (-1)).bind fun h6 =>
        if (v2 : Int32) = (-1) then
          ah_run (kX12_nextRow g) f 60 [(0, .ref x0), (1, .int x1), (3, .int (x1 + 1))] [] h6
        else
          ah_run (kX12_nextRow g) f 60 [(0, .ref x0), (1, .int x1), (3, .int (v2 + 1))] [] h6
    else
      if (x1 : Int32) < v2 then
        if (v2 : Int32) = (-1) then
          if (v2 : Int32) = (-1) then
            ah_run (kX12_nextRow g) f 60 [(0, .ref x0), (1, .int x1), (3, .int (x1 + 1))] [] h
          else
            ah_run (kX12_nextRow g) f 60 [(0, .ref x0), (1, .int x1), (3, .int (v2 + 1))] [] h
        else
          (ah_fr h x0 [12] 13).bind fun v7 =>
          (ah_si h v7 0 v2 (-1)).bind fun h8 =>
          (ah_fr h8 x0 [12] 13).bind fun v9 =>
          (ah_si h8 v9 0 x1 (-1)).bind fun h10 =>
          if (v2 : Int32) = (-1) then
            ah_run (kX12_nextRow g) f 60 [(0, .ref x0), (1, .int x1), (3, .int (x1 + 1))] [] h10
          else
            ah_run (kX12_nextRow g) f 60 [(0, .ref x0), (1, .int x1), (3, .int (v2 + 1))] [] h10
      else
        ah_run (kX12_nextRow g) f 7 [(0, .ref x0), (1, .int (x1 + (-1)))] [] h := Eq.trans rfl rfl
set_option maxRecDepth 1000000 in
set_option maxHeartbeats 8000000 in
theorem rX12_nextRow_60 (g f : Nat) (x0 : Nat) (x1 : Int32) (x3 : Int32) (h : ah_H) : ah_run (kX12_nextRow g) (f + 1) 60 [(0, .ref x0), (1, .int x1), (3, .int x3)] [] h =
  (ah_fi h x0 [12] 2).bind fun v1 =>
  if (x3 : Int32) < v1 then
    (ah_fr h x0 [12] 13).bind fun v2 =>
    (ah_li h v2 0 x3).bind fun v3 =>
    if (v3 : Int32) = (-1) then
      (ah_fr h x0 [12] 11).bind fun v4 =>
      (ah_li h v4 0 x1).bind fun v5 =>
      if (v5 : Int32) = (-1) then
        (ah_fr h x0 [12] 11).bind fun v6 =>
        (ah_li h v6 0 x3).bind fun v7 =>
        if (v7 : Int32) = (-1) then
          (ah_ob h x0).bind fun o8 => (ah_sel [(12, aX12_mayBe g)] o8.1).bind fun F9 =>
          (ah_rI (F9 [.ref x0, .int x1, .int x3] h)).bind fun z10 =>
          if (z10.1 : Int32) = 0 then
            ah_run (kX12_nextRow g) f 60 [(0, .ref x0), (1, .int x1), (3, .int (x3 + 1))] [] z10.2
          else
            (ah_fr z10.2 x0 [12] 13).bind fun v11 =>
            (ah_si z10.2 v11 0 x1 x3).bind fun h12 =>
            (ah_fr h12 x0 [12] 13).bind fun v13 =>
            (ah_si h12 v13 0 x3 x1).bind fun h14 =>
            some (some (.int 1), h14)
        else
          ah_run (kX12_nextRow g) f 60 [(0, .ref x0), (1, .int x1), (3, .int (x3 + 1))] [] h
      else
        ah_run (kX12_nextRow g) f 60 [(0, .ref x0), (1, .int x1), (3, .int (x3 + 1))] [] h
    else
      ah_run (kX12_nextRow g) f 60 [(0, .ref x0), (1, .int x1), (3, .int (x3 + 1))] [] h
  else
    ah_run (kX12_nextRow g) f 7 [(0, .ref x0), (1, .int (x1 + (-1)))] [] h := Eq.trans rfl rfl
set_option maxRecDepth 1000000 in
set_option maxHeartbeats 8000000 in
theorem eX12_likenessRow (g f : Nat) (a0 : Nat) (h : ah_H) : ah_fun (kX12_likenessRow g) 3 (f + 1) [.ref a0] h =
  ah_run (kX12_likenessRow g) f 4 [(0, .ref a0), (1, .int 0), (2, .int 0)] [] h := Eq.trans rfl rfl
set_option maxRecDepth 1000000 in
set_option maxHeartbeats 8000000 in
theorem rX12_likenessRow_4 (g f : Nat) (x0 : Nat) (x1 : Int32) (x2 : Int32) (h : ah_H) : ah_run (kX12_likenessRow g) (f + 1) 4 [(0, .ref x0), (1, .int x1), (2, .int x2)] [] h =
  (ah_fi h x0 [12] 2).bind fun v1 =>
  if (x2 : Int32) < v1 then
    (ah_fr h x0 [12] 13).bind fun v2 =>
    (ah_li h v2 0 x2).bind fun v3 =>
    if (x2 : Int32) < v3 then
      (ah_fr h x0 [12] 13).bind fun v4 =>
      (ah_li h v4 0 x2).bind fun v5 =>
      (ah_ob h x0).bind fun o6 => (ah_sel [(12, aX12_likenessOf g)] o6.1).bind fun F7 =>
      (ah_rI (F7 [.ref x0, .int x2, .int v5] h)).bind fun z8 =>
      ah_run (kX12_likenessRow g) f 4 [(0, .ref x0), (1, .int (x1 + z8.1)), (2, .int (x2 + 1))] [] z8.2
    else
      ah_run (kX12_likenessRow g) f 4 [(0, .ref x0), (1, .int (x1 + 0)), (2, .int (x2 + 1))] [] h
  else
    some (some (.int x1), h) := Eq.trans rfl rfl
set_option maxRecDepth 1000000 in
set_option maxHeartbeats 8000000 in
theorem eX12_milesRow (g f : Nat) (a0 : Nat) (h : ah_H) : ah_fun (kX12_milesRow g) 3 (f + 1) [.ref a0] h =
  ah_run (kX12_milesRow g) f 4 [(0, .ref a0), (1, .int 0), (2, .int 0)] [] h := Eq.trans rfl rfl
set_option maxRecDepth 1000000 in
set_option maxHeartbeats 8000000 in
theorem rX12_milesRow_4 (g f : Nat) (x0 : Nat) (x1 : Int32) (x2 : Int32) (h : ah_H) : ah_run (kX12_milesRow g) (f + 1) 4 [(0, .ref x0), (1, .int x1), (2, .int x2)] [] h =
  (ah_fi h x0 [12] 2).bind fun v1 =>
  if (x2 : Int32) < v1 then
    (ah_fr h x0 [12] 13).bind fun v2 =>
    (ah_li h v2 0 x2).bind fun v3 =>
    if (x2 : Int32) < v3 then
      (ah_fr h x0 [12] 10).bind fun v4 =>
      (ah_li h v4 0 x2).bind fun v5 =>
      (ah_fr h x0 [12] 10).bind fun v6 =>
      (ah_fr h x0 [12] 13).bind fun v7 =>
      (ah_li h v7 0 x2).bind fun v8 =>
      (ah_li h v6 0 v8).bind fun v9 =>
      (ah_rI (aX12_far g [.int v5, .int v9] h)).bind fun z10 =>
      ah_run (kX12_milesRow g) f 4 [(0, .ref x0), (1, .int (x1 + z10.1)), (2, .int (x2 + 1))] [] z10.2
    else
      ah_run (kX12_milesRow g) f 4 [(0, .ref x0), (1, .int (x1 + 0)), (2, .int (x2 + 1))] [] h
  else
    some (some (.int x1), h) := Eq.trans rfl rfl
set_option maxRecDepth 1000000 in
set_option maxHeartbeats 8000000 in
theorem eX12_mostOf (g f : Nat) (a0 : Nat) (p1 : Int32) (h : ah_H) : ah_fun (kX12_mostOf g) 6 (f + 1) [.ref a0, .int p1] h =
  (ah_ob h a0).bind fun o1 => (ah_sel [(12, aX12_firstRow g)] o1.1).bind fun F2 =>
  (ah_rV (F2 [.ref a0] h)).bind fun z3 =>
  ah_run (kX12_mostOf g) f 8 [(0, .ref a0), (1, .int p1), (2, .int 0), (3, .int 0)] [] z3 := Eq.trans rfl rfl
set_option maxRecDepth 1000000 in
set_option maxHeartbeats 8000000 in
theorem rX12_mostOf_8 (g f : Nat) (x0 : Nat) (x1 : Int32) (x2 : Int32) (x3 : Int32) (h : ah_H) : ah_run (kX12_mostOf g) (f + 1) 8 [(0, .ref x0), (1, .int x1), (2, .int x2), (3, .int x3)] [] h =
  (ah_ob h x0).bind fun o1 => (ah_sel [(12, aX12_nextRow g)] o1.1).bind fun F2 =>
  (ah_rI (F2 [.ref x0] h)).bind fun z3 =>
  if (z3.1 : Int32) = 0 then
    if (x1 : Int32) = 0 then
      some (some (.int x2), z3.2)
    else
      if (x1 : Int32) = 1 then
        some (some (.int x3), z3.2)
      else
        (ah_fr z3.2 x0 [12] 14).bind fun v4 =>
        (ah_li z3.2 v4 0 (x1 - 10)).bind fun v5 =>
        some (some (.int v5), z3.2)
  else
    (ah_fr z3.2 x0 [12] 13).bind fun v6 =>
    (ah_ob z3.2 x0).bind fun o7 => (ah_sel [(12, aX12_pairsOf g)] o7.1).bind fun F8 =>
    (ah_rI (F8 [.ref x0, .ref v6] z3.2)).bind fun z9 =>
    (ah_ob z9.2 x0).bind fun o10 => (ah_sel [(12, aX12_likenessRow g)] o10.1).bind fun F11 =>
    (ah_rI (F11 [.ref x0] z9.2)).bind fun z12 =>
    if (x2 : Int32) < z9.1 then
      (ah_fr z12.2 x0 [12] 13).bind fun v13 =>
      (ah_fr z12.2 x0 [12] 14).bind fun v14 =>
      (ah_rV (aX12_copy g [.ref v13, .ref v14] z12.2)).bind fun z15 =>
      ah_run (kX12_mostOf g) f 8 [(0, .ref x0), (1, .int x1), (2, .int z9.1), (3, .int z12.1)] [] z15
    else
      if (z9.1 : Int32) = x2 then
        if (x3 : Int32) < z12.1 then
          (ah_fr z12.2 x0 [12] 13).bind fun v16 =>
          (ah_fr z12.2 x0 [12] 14).bind fun v17 =>
          (ah_rV (aX12_copy g [.ref v16, .ref v17] z12.2)).bind fun z18 =>
          ah_run (kX12_mostOf g) f 8 [(0, .ref x0), (1, .int x1), (2, .int z9.1), (3, .int z12.1)] [] z18
        else
          ah_run (kX12_mostOf g) f 8 [(0, .ref x0), (1, .int x1), (2, .int x2), (3, .int x3)] [] z12.2
      else
        ah_run (kX12_mostOf g) f 8 [(0, .ref x0), (1, .int x1), (2, .int x2), (3, .int x3)] [] z12.2 := Eq.trans rfl rfl
set_option maxRecDepth 1000000 in
set_option maxHeartbeats 8000000 in
theorem eX12_isRowWhat (g f : Nat) (p1 : Int32) (h : ah_H) : ah_fun (kX12_isRowWhat g) 1 (f + 1) [.int p1] h =
  (ah_rI (aX12_in g [.long ((p1 : Int32).toInt64), .long 0, .long 1] h)).bind fun z1 =>
  if (z1.1 : Int32) = 0 then
    (ah_rI (aX12_in g [.long ((p1 : Int32).toInt64), .long 10, .long 16] z1.2)).bind fun z2 =>
    if (z2.1 : Int32) = 0 then
      some (some (.int 0), z2.2)
    else
      some (some (.int 1), z2.2)
  else
    some (some (.int 1), z1.2) := Eq.trans rfl rfl
set_option maxRecDepth 1000000 in
set_option maxHeartbeats 8000000 in
theorem eX12_most (g f : Nat) (a0 : Nat) (p1 : Int32) (h : ah_H) : ah_fun (kX12_most g) 2 (f + 1) [.ref a0, .int p1] h =
  (ah_rI (aX12_isRowWhat g [.int p1] h)).bind fun z1 =>
  if (z1.1 : Int32) = 0 then
    some (some (.int (-102)), z1.2)
  else
    (ah_ob z1.2 a0).bind fun o2 => (ah_sel [(12, aX12_lacks g)] o2.1).bind fun F3 =>
    (ah_rI (F3 [.ref a0] z1.2)).bind fun z4 =>
    if (z4.1 : Int32) = 0 then
      (ah_ob z4.2 a0).bind fun o5 => (ah_sel [(12, aX12_mostOf g)] o5.1).bind fun F6 =>
      (ah_rI (F6 [.ref a0, .int p1] z4.2)).bind fun z7 =>
      some (some (.int z7.1), z7.2)
    else
      some (some (.int (-103)), z4.2) := Eq.trans rfl rfl
set_option maxRecDepth 1000000 in
set_option maxHeartbeats 8000000 in
theorem eX12_bestOf (g f : Nat) (a0 : Nat) (p1 : Int32) (p2 : Int32) (h : ah_H) : ah_fun (kX12_bestOf g) 7 (f + 1) [.ref a0, .int p1, .int p2] h =
  (ah_ob h a0).bind fun o1 => (ah_sel [(12, aX12_firstRow g)] o1.1).bind fun F2 =>
  (ah_rV (F2 [.ref a0] h)).bind fun z3 =>
  ah_run (kX12_bestOf g) f 9 [(0, .ref a0), (1, .int p1), (2, .int p2), (3, .int 0), (4, .int 0)] [] z3 := Eq.trans rfl rfl
set_option maxRecDepth 1000000 in
set_option maxHeartbeats 8000000 in
theorem rX12_bestOf_9 (g f : Nat) (x0 : Nat) (x1 : Int32) (x2 : Int32) (x3 : Int32) (x4 : Int32) (h : ah_H) : ah_run (kX12_bestOf g) (f + 1) 9 [(0, .ref x0), (1, .int x1), (2, .int x2), (3, .int x3), (4, .int x4)] [] h =
  (ah_ob h x0).bind fun o1 => (ah_sel [(12, aX12_nextRow g)] o1.1).bind fun F2 =>
  (ah_rI (F2 [.ref x0] h)).bind fun z3 =>
  if (z3.1 : Int32) = 0 then
    if (x2 : Int32) = 0 then
      some (some (.int x3), z3.2)
    else
      if (x2 : Int32) = 1 then
        some (some (.int x4), z3.2)
      else
        (ah_fr z3.2 x0 [12] 14).bind fun v4 =>
        (ah_li z3.2 v4 0 (x2 - 10)).bind fun v5 =>
        some (some (.int v5), z3.2)
  else
    (ah_ob z3.2 x0).bind fun o6 => (ah_sel [(12, aX12_likenessRow g)] o6.1).bind fun F7 =>
    (ah_rI (F7 [.ref x0] z3.2)).bind fun z8 =>
    (ah_ob z8.2 x0).bind fun o9 => (ah_sel [(12, aX12_milesRow g)] o9.1).bind fun F10 =>
    (ah_rI (F10 [.ref x0] z8.2)).bind fun z11 =>
    if (x1 : Int32) < z11.1 then
      ah_run (kX12_bestOf g) f 9 [(0, .ref x0), (1, .int x1), (2, .int x2), (3, .int x3), (4, .int x4)] [] z11.2
    else
      if (x3 : Int32) < z8.1 then
        (ah_fr z11.2 x0 [12] 13).bind fun v12 =>
        (ah_fr z11.2 x0 [12] 14).bind fun v13 =>
        (ah_rV (aX12_copy g [.ref v12, .ref v13] z11.2)).bind fun z14 =>
        ah_run (kX12_bestOf g) f 9 [(0, .ref x0), (1, .int x1), (2, .int x2), (3, .int z8.1), (4, .int z11.1)] [] z14
      else
        if (z8.1 : Int32) = x3 then
          if (z11.1 : Int32) < x4 then
            (ah_fr z11.2 x0 [12] 13).bind fun v15 =>
            (ah_fr z11.2 x0 [12] 14).bind fun v16 =>
            (ah_rV (aX12_copy g [.ref v15, .ref v16] z11.2)).bind fun z17 =>
            ah_run (kX12_bestOf g) f 9 [(0, .ref x0), (1, .int x1), (2, .int x2), (3, .int z8.1), (4, .int z11.1)] [] z17
          else
            ah_run (kX12_bestOf g) f 9 [(0, .ref x0), (1, .int x1), (2, .int x2), (3, .int x3), (4, .int x4)] [] z11.2
        else
          ah_run (kX12_bestOf g) f 9 [(0, .ref x0), (1, .int x1), (2, .int x2), (3, .int x3), (4, .int x4)] [] z11.2 := Eq.trans rfl rfl
set_option maxRecDepth 1000000 in
set_option maxHeartbeats 8000000 in
theorem eX12_best (g f : Nat) (a0 : Nat) (p1 : Int32) (p2 : Int32) (h : ah_H) : ah_fun (kX12_best g) 3 (f + 1) [.ref a0, .int p1, .int p2] h =
  (ah_rI (aX12_in g [.long ((p1 : Int32).toInt64), .long 0, .long 30] h)).bind fun z1 =>
  if (z1.1 : Int32) = 0 then
    some (some (.int (-102)), z1.2)
  else
    (ah_rI (aX12_isRowWhat g [.int p2] z1.2)).bind fun z2 =>
    if (z2.1 : Int32) = 0 then
      some (some (.int (-102)), z2.2)
    else
      (ah_ob z2.2 a0).bind fun o3 => (ah_sel [(12, aX12_lacks g)] o3.1).bind fun F4 =>
      (ah_rI (F4 [.ref a0] z2.2)).bind fun z5 =>
      if (z5.1 : Int32) = 0 then
        (ah_ob z5.2 a0).bind fun o6 => (ah_sel [(12, aX12_bestOf g)] o6.1).bind fun F7 =>
        (ah_rI (F7 [.ref a0, .int p1, .int p2] z5.2)).bind fun z8 =>
        some (some (.int z8.1), z8.2)
      else
        some (some (.int (-103)), z5.2) := Eq.trans rfl rfl
set_option maxRecDepth 1000000 in
set_option maxHeartbeats 8000000 in
theorem eX12_isStable (g f : Nat) (a0 : Nat) (h : ah_H) : ah_fun (kX12_isStable g) 6 (f + 1) [.ref a0] h =
  ah_run (kX12_isStable g) f 4 [(0, .ref a0), (1, .int 1), (2, .int 0)] [] h := Eq.trans rfl rfl
set_option maxRecDepth 1000000 in
set_option maxHeartbeats 8000000 in
theorem rX12_isStable_4 (g f : Nat) (x0 : Nat) (x1 : Int32) (x2 : Int32) (h : ah_H) : ah_run (kX12_isStable g) (f + 1) 4 [(0, .ref x0), (1, .int x1), (2, .int x2)] [] h =
  (ah_fi h x0 [12] 2).bind fun v1 =>
  if (x2 : Int32) < v1 then
    ah_run (kX12_isStable g) f 16 [(0, .ref x0), (1, .int x1), (2, .int x2), (3, .int (x2 + 1))] [] h
  else
    if (x1 : Int32) = 0 ∨ (x1 : Int32) = 1 then some (some (.int x1), h) else none := Eq.trans rfl rfl
set_option maxRecDepth 1000000 in
set_option maxHeartbeats 8000000 in
theorem rX12_isStable_16 (g f : Nat) (x0 : Nat) (x1 : Int32) (x2 : Int32) (x3 : Int32) (h : ah_H) : ah_run (kX12_isStable g) (f + 1) 16 [(0, .ref x0), (1, .int x1), (2, .int x2), (3, .int x3)] [] h =
  (ah_fi h x0 [12] 2).bind fun v1 =>
  if (x3 : Int32) < v1 then
    (ah_fr h x0 [12] 11).bind fun v2 =>
    (ah_li h v2 0 x2).bind fun v3 =>
    if (v3 : Int32) = (-1) then
      (ah_fr h x0 [12] 11).bind fun v4 =>
      (ah_li h v4 0 x3).bind fun v5 =>
      if (v5 : Int32) = (-1) then
        ah_run (kX12_isStable g) f 49 [(0, .ref x0), (1, .int x1), (2, .int x2), (3, .int x3)] [.int 1] h
      else
        ah_run (kX12_isStable g) f 49 [(0, .ref x0), (1, .int x1), (2, .int x2), (3, .int x3)] [.int 0] h
    else
      ah_run (kX12_isStable g) f 49 [(0, .ref x0), (1, .int x1), (2, .int x2), (3, .int x3)] [.int 0] h
  else
    ah_run (kX12_isStable g) f 4 [(0, .ref x0), (1, .int x1), (2, .int (x2 + 1))] [] h := Eq.trans rfl rfl
set_option maxRecDepth 1000000 in
set_option maxHeartbeats 8000000 in
theorem rX12_isStable_49 (g f : Nat) (x0 : Nat) (x1 : Int32) (x2 : Int32) (x3 : Int32) (y0 : Int32) (h : ah_H) : ah_run (kX12_isStable g) (f + 1) 49 [(0, .ref x0), (1, .int x1), (2, .int x2), (3, .int x3)] [.int y0] h =
  if (y0 : Int32) = 0 then
    ah_run (kX12_isStable g) f 110 [(0, .ref x0), (1, .int x1), (2, .int x2), (3, .int x3)] [.int 0] h
  else
    (ah_ob h x0).bind fun o1 => (ah_sel [(12, aX12_mayBe g)] o1.1).bind fun F2 =>
    (ah_rI (F2 [.ref x0, .int x2, .int x3] h)).bind fun z3 =>
    if (z3.1 : Int32) = 0 then
      ah_run (kX12_isStable g) f 110 [(0, .ref x0), (1, .int x1), (2, .int x2), (3, .int x3)] [.int 0] z3.2
    else
      (ah_fr z3.2 x0 [12] 13).bind fun v4 =>
      (ah_li z3.2 v4 0 x2).bind fun v5 =>
      if (v5 : Int32) = x3 then
        ah_run (kX12_isStable g) f 110 [(0, .ref x0), (1, .int x1), (2, .int x2), (3, .int x3)] [.int 0] z3.2
      else
        (ah_fr z3.2 x0 [12] 13).bind fun v6 =>
        (ah_li z3.2 v6 0 x2).bind fun v7 =>
        (ah_ob z3.2 x0).bind fun o8 => (ah_sel [(12, aX12_prefers g)] o8.1).bind fun F9 =>
        (ah_rI (F9 [.ref x0, .int x2, .int x3, .int v7] z3.2)).bind fun z10 =>
        if (z10.1 : Int32) = 0 then
          ah_run (kX12_isStable g) f 110 [(0, .ref x0), (1, .int x1), (2, .int x2), (3, .int x3)] [.int 0] z10.2
        else
          (ah_fr z10.2 x0 [12] 13).bind fun v11 =>
          (ah_li z10.2 v11 0 x3).bind fun v12 =>
          (ah_ob z10.2 x0).bind fun o13 => (ah_sel [(12, aX12_prefers g)] o13.1).bind fun F14 =>
          (ah_rI (F14 [.ref x0, .int x3, .int x2, .int v12] z10.2)).bind fun z15 =>
          if (z15.1 : Int32) = 0 then
            ah_run (kX12_isStable g) f 110 [(0, .ref x0), (1, .int x1), (2, .int x2), (3, .int x3)] [.int 0] z15.2
          else
            ah_run (kX12_isStable g) f 110 [(0, .ref x0), (1, .int x1), (2, .int x2), (3, .int x3)] [.int 1] z15.2 := Eq.trans rfl rfl
set_option maxRecDepth 1000000 in
set_option maxHeartbeats 8000000 in
theorem rX12_isStable_110 (g f : Nat) (x0 : Nat) (x1 : Int32) (x2 : Int32) (x3 : Int32) (y0 : Int32) (h : ah_H) : ah_run (kX12_isStable g) (f + 1) 110 [(0, .ref x0), (1, .int x1), (2, .int x2), (3, .int x3)] [.int y0] h =
  if (x1 : Int32) = 0 then
    ah_run (kX12_isStable g) f 126 [(0, .ref x0), (2, .int x2), (3, .int x3)] [.int 0] h
  else
    if (y0 : Int32) = 0 then
      ah_run (kX12_isStable g) f 126 [(0, .ref x0), (2, .int x2), (3, .int x3)] [.int 1] h
    else
      ah_run (kX12_isStable g) f 126 [(0, .ref x0), (2, .int x2), (3, .int x3)] [.int 0] h := Eq.trans rfl rfl
set_option maxRecDepth 1000000 in
set_option maxHeartbeats 8000000 in
theorem rX12_isStable_126 (g f : Nat) (x0 : Nat) (x2 : Int32) (x3 : Int32) (y0 : Int32) (h : ah_H) : ah_run (kX12_isStable g) (f + 1) 126 [(0, .ref x0), (2, .int x2), (3, .int x3)] [.int y0] h =
  ah_run (kX12_isStable g) f 16 [(0, .ref x0), (1, .int y0), (2, .int x2), (3, .int (x3 + 1))] [] h := Eq.trans rfl rfl
set_option maxRecDepth 1000000 in
set_option maxHeartbeats 8000000 in
theorem eX12_stableOf (g f : Nat) (a0 : Nat) (p1 : Int32) (h : ah_H) : ah_fun (kX12_stableOf g) 6 (f + 1) [.ref a0, .int p1] h =
  (ah_ob h a0).bind fun o1 => (ah_sel [(12, aX12_firstRow g)] o1.1).bind fun F2 =>
  (ah_rV (F2 [.ref a0] h)).bind fun z3 =>
  ah_run (kX12_stableOf g) f 11 [(0, .ref a0), (1, .int p1), (2, .int 0), (3, .int (-1)), (4, .int 1)] [] z3 := Eq.trans rfl rfl
set_option maxRecDepth 1000000 in
set_option maxHeartbeats 8000000 in
theorem rX12_stableOf_11 (g f : Nat) (x0 : Nat) (x1 : Int32) (x2 : Int32) (x3 : Int32) (x4 : Int32) (h : ah_H) : ah_run (kX12_stableOf g) (f + 1) 11 [(0, .ref x0), (1, .int x1), (2, .int x2), (3, .int x3), (4, .int x4)] [] h =
  if (x4 : Int32) = 0 then
    if (x1 : Int32) = 0 then
      some (some (.int x2), h)
    else
      if (x1 : Int32) = 1 then
        some (some (.int x3), h)
      else
        (ah_fr h x0 [12] 14).bind fun v1 =>
        (ah_li h v1 0 (x1 - 10)).bind fun v2 =>
        some (some (.int v2), h)
  else
    (ah_ob h x0).bind fun o3 => (ah_sel [(12, aX12_isStable g)] o3.1).bind fun F4 =>
    (ah_rI (F4 [.ref x0] h)).bind fun z5 =>
    if (z5.1 : Int32) = 0 then
      if (z5.1 : Int32) = 0 then
        (ah_ob z5.2 x0).bind fun o6 => (ah_sel [(12, aX12_nextRow g)] o6.1).bind fun F7 =>
        (ah_rI (F7 [.ref x0] z5.2)).bind fun z8 =>
        ah_run (kX12_stableOf g) f 11 [(0, .ref x0), (1, .int x1), (2, .int (x2 + 0)), (3, .int x3), (4, .int z8.1)] [] z8.2
      else
        if ((x2 + 0) : Int32) = 1 then
          (ah_fr z5.2 x0 [12] 13).bind fun v9 =>
          (ah_fr z5.2 x0 [12] 14).bind fun v10 =>
          (ah_rV (aX12_copy g [.ref v9, .ref v10] z5.2)).bind fun z11 =>
          (ah_fr z11 x0 [12] 13).bind fun v12 =>
          (ah_ob z11 x0).bind fun o13 => (ah_sel [(12, aX12_pairsOf g)] o13.1).bind fun F14 =>
          (ah_rI (F14 [.ref x0, .ref v12] z11)).bind fun z15 =>
          (ah_ob z15.2 x0).bind fun o16 => (ah_sel [(12, aX12_nextRow g)] o16.1).bind fun F17 =>
          (ah_rI (F17 [.ref x0] z15.2)).bind fun z18 =>
          ah_run (kX12_stableOf g) f 11 [(0, .ref x0), (1, .int x1), (2, .int (x2 + 0)), (3, .int z15.1), (4, .int z18.1)] [] z18.2
        else
          (ah_ob z5.2 x0).bind fun o19 => (ah_sel [(12, aX12_nextRow g)] o19.1).bind fun F20 =>
          (ah_rI (F20 [.ref x0] z5.2)).bind fun z21 =>
          ah_run (kX12_stableOf g) f 11 [(0, .ref x0), (1, .int x1), (2, .int (x2 + 0)), (3, .int x3), (4, .int z21.1)] [] z21.2
    else
      if (z5.1 : Int32) = 0 then
        (ah_ob z5.2 x0).bind fun o22 => (ah_sel [(12, aX12_nextRow g)] o22.1).bind fun F23 =>
        (ah_rI (F23 [.ref x0] z5.2)).bind fun z24 =>
        ah_run (kX12_stableOf g) f 11 [(0, .ref x0), (1, .int x1), (2, .int (x2 + 1)), (3, .int x3), (4, .int z24.1)] [] z24.2
      else
        if ((x2 + 1) : Int32) = 1 then
          (ah_fr z5.2 x0 [12] 13).bind fun v25 =>
          (ah_fr z5.2 x0 [12] 14).bind fun v26 =>
          (ah_rV (aX12_copy g [.ref v25, .ref v26] z5.2)).bind fun z27 =>
          (ah_fr z27 x0 [12] 13).bind fun v28 =>
          (ah_ob z27 x0).bind fun o29 => (ah_sel [(12, aX12_pairsOf g)] o29.1).bind fun F30 =>
          (ah_rI (F30 [.ref x0, .ref v28] z27)).bind fun z31 =>
          (ah_ob z31.2 x0).bind fun o32 => (ah_sel [(12, aX12_nextRow g)] o32.1).bind fun F33 =>
          (ah_rI (F33 [.ref x0] z31.2)).bind fun z34 =>
          ah_run (kX12_stableOf g) f 11 [(0, .ref x0), (1, .int x1), (2, .int (x2 + 1)), (3, .int z31.1), (4, .int z34.1)] [] z34.2
        else
          (ah_ob z5.2 x0).bind fun o35 => (ah_sel [(12, aX12_nextRow g)] o35.1).bind fun F36 =>
          (ah_rI (F36 [.ref x0] z5.2)).bind fun z37 =>
          ah_run (kX12_stableOf g) f 11 [(0, .ref x0), (1, .int x1), (2, .int (x2 + 1)), (3, .int x3), (4, .int z37.1)] [] z37.2 := Eq.trans rfl rfl
set_option maxRecDepth 1000000 in
set_option maxHeartbeats 8000000 in
theorem eX12_stable (g f : Nat) (a0 : Nat) (p1 : Int32) (h : ah_H) : ah_fun (kX12_stable g) 2 (f + 1) [.ref a0, .int p1] h =
  (ah_rI (aX12_isRowWhat g [.int p1] h)).bind fun z1 =>
  if (z1.1 : Int32) = 0 then
    some (some (.int (-102)), z1.2)
  else
    (ah_ob z1.2 a0).bind fun o2 => (ah_sel [(12, aX12_lacks g)] o2.1).bind fun F3 =>
    (ah_rI (F3 [.ref a0] z1.2)).bind fun z4 =>
    if (z4.1 : Int32) = 0 then
      (ah_ob z4.2 a0).bind fun o5 => (ah_sel [(12, aX12_stableOf g)] o5.1).bind fun F6 =>
      (ah_rI (F6 [.ref a0, .int p1] z4.2)).bind fun z7 =>
      some (some (.int z7.1), z7.2)
    else
      some (some (.int (-103)), z4.2) := Eq.trans rfl rfl
set_option maxRecDepth 1000000 in
set_option maxHeartbeats 8000000 in
theorem eX12_happy (g f : Nat) (a0 : Nat) (p1 : Int32) (h : ah_H) : ah_fun (kX12_happy g) 3 (f + 1) [.ref a0, .int p1] h =
  (ah_ob h a0).bind fun o1 => (ah_sel [(12, aX12_isSingle g)] o1.1).bind fun F2 =>
  (ah_rI (F2 [.ref a0, .int p1] h)).bind fun z3 =>
  if (z3.1 : Int32) = 0 then
    some (some (.int (-101)), z3.2)
  else
    (ah_fr z3.2 a0 [12] 11).bind fun v4 =>
    (ah_li z3.2 v4 0 p1).bind fun v5 =>
    if (v5 : Int32) = (-1) then
      some (some (.int (-103)), z3.2)
    else
      (ah_ob z3.2 a0).bind fun o6 => (ah_sel [(12, aX12_preferredOf g)] o6.1).bind fun F7 =>
      (ah_rI (F7 [.ref a0, .int p1] z3.2)).bind fun z8 =>
      if (z8.1 : Int32) = v5 then
        (ah_ob z8.2 a0).bind fun o9 => (ah_sel [(12, aX12_preferredOf g)] o9.1).bind fun F10 =>
        (ah_rI (F10 [.ref a0, .int v5] z8.2)).bind fun z11 =>
        if (z11.1 : Int32) = p1 then
          some (some (.int 1), z11.2)
        else
          some (some (.int 0), z11.2)
      else
        some (some (.int 0), z8.2) := Eq.trans rfl rfl
set_option maxRecDepth 1000000 in
set_option maxHeartbeats 8000000 in
theorem eX12_roundOf (g f : Nat) (a0 : Nat) (p1 : Int32) (h : ah_H) : ah_fun (kX12_roundOf g) 6 (f + 1) [.ref a0, .int p1] h =
  ah_run (kX12_roundOf g) f 7 [(0, .ref a0), (1, .int p1), (2, .int p1), (3, .int p1), (4, .int 0)] [] h := Eq.trans rfl rfl
set_option maxRecDepth 1000000 in
set_option maxHeartbeats 8000000 in
theorem rX12_roundOf_7 (g f : Nat) (x0 : Nat) (x1 : Int32) (x2 : Int32) (x3 : Int32) (x4 : Int32) (h : ah_H) : ah_run (kX12_roundOf g) (f + 1) 7 [(0, .ref x0), (1, .int x1), (2, .int x2), (3, .int x3), (4, .int x4)] [] h =
  (ah_fi h x0 [12] 2).bind fun v1 =>
  if (x4 : Int32) < v1 then
    (ah_fr h x0 [12] 11).bind fun v2 =>
    (ah_li h v2 0 x4).bind fun v3 =>
    if (v3 : Int32) = (-1) then
      ah_run (kX12_roundOf g) f 32 [(0, .ref x0), (1, .int x1), (2, .int x2), (3, .int x3), (4, .int x4)] [.int 1] h
    else
      ah_run (kX12_roundOf g) f 32 [(0, .ref x0), (1, .int x1), (2, .int x2), (3, .int x3), (4, .int x4)] [.int 0] h
  else
    if ((x1 - x2) : Int32) < (x3 - x1) then
      some (some (.int ((x3 - x2) + (x1 - x2))), h)
    else
      some (some (.int ((x3 - x2) + (x3 - x1))), h) := Eq.trans rfl rfl
set_option maxRecDepth 1000000 in
set_option maxHeartbeats 8000000 in
theorem rX12_roundOf_32 (g f : Nat) (x0 : Nat) (x1 : Int32) (x2 : Int32) (x3 : Int32) (x4 : Int32) (y0 : Int32) (h : ah_H) : ah_run (kX12_roundOf g) (f + 1) 32 [(0, .ref x0), (1, .int x1), (2, .int x2), (3, .int x3), (4, .int x4)] [.int y0] h =
  if (y0 : Int32) = 0 then
    ah_run (kX12_roundOf g) f 61 [(0, .ref x0), (1, .int x1), (3, .int x3), (4, .int x4), (5, .int y0)] [.int x2] h
  else
    (ah_fr h x0 [12] 10).bind fun v1 =>
    (ah_li h v1 0 x4).bind fun v2 =>
    if (v2 : Int32) < x2 then
      (ah_fr h x0 [12] 10).bind fun v3 =>
      (ah_li h v3 0 x4).bind fun v4 =>
      ah_run (kX12_roundOf g) f 61 [(0, .ref x0), (1, .int x1), (3, .int x3), (4, .int x4), (5, .int y0)] [.int v4] h
    else
      ah_run (kX12_roundOf g) f 61 [(0, .ref x0), (1, .int x1), (3, .int x3), (4, .int x4), (5, .int y0)] [.int x2] h := Eq.trans rfl rfl
set_option maxRecDepth 1000000 in
set_option maxHeartbeats 8000000 in
theorem rX12_roundOf_61 (g f : Nat) (x0 : Nat) (x1 : Int32) (x3 : Int32) (x4 : Int32) (x5 : Int32) (y0 : Int32) (h : ah_H) : ah_run (kX12_roundOf g) (f + 1) 61 [(0, .ref x0), (1, .int x1), (3, .int x3), (4, .int x4), (5, .int x5)] [.int y0] h =
  if (x5 : Int32) = 0 then
    ah_run (kX12_roundOf g) f 89 [(0, .ref x0), (1, .int x1), (2, .int y0), (4, .int x4)] [.int x3] h
  else
    (ah_fr h x0 [12] 10).bind fun v1 =>
    (ah_li h v1 0 x4).bind fun v2 =>
    if (x3 : Int32) < v2 then
      (ah_fr h x0 [12] 10).bind fun v3 =>
      (ah_li h v3 0 x4).bind fun v4 =>
      ah_run (kX12_roundOf g) f 89 [(0, .ref x0), (1, .int x1), (2, .int y0), (4, .int x4)] [.int v4] h
    else
      ah_run (kX12_roundOf g) f 89 [(0, .ref x0), (1, .int x1), (2, .int y0), (4, .int x4)] [.int x3] h := Eq.trans rfl rfl
set_option maxRecDepth 1000000 in
set_option maxHeartbeats 8000000 in
theorem rX12_roundOf_89 (g f : Nat) (x0 : Nat) (x1 : Int32) (x2 : Int32) (x4 : Int32) (y0 : Int32) (h : ah_H) : ah_run (kX12_roundOf g) (f + 1) 89 [(0, .ref x0), (1, .int x1), (2, .int x2), (4, .int x4)] [.int y0] h =
  ah_run (kX12_roundOf g) f 7 [(0, .ref x0), (1, .int x1), (2, .int x2), (3, .int y0), (4, .int (x4 + 1))] [] h := Eq.trans rfl rfl
set_option maxRecDepth 1000000 in
set_option maxHeartbeats 8000000 in
theorem eX12_round (g f : Nat) (a0 : Nat) (p1 : Int32) (h : ah_H) : ah_fun (kX12_round g) 2 (f + 1) [.ref a0, .int p1] h =
  (ah_ob h a0).bind fun o1 => (ah_sel [(12, aX12_lacks g)] o1.1).bind fun F2 =>
  (ah_rI (F2 [.ref a0] h)).bind fun z3 =>
  if (z3.1 : Int32) = 0 then
    (ah_rI (aX12_in g [.long ((p1 : Int32).toInt64), .long 0, .long 5] z3.2)).bind fun z4 =>
    if (z4.1 : Int32) = 0 then
      some (some (.int (-101)), z4.2)
    else
      (ah_ob z4.2 a0).bind fun o5 => (ah_sel [(12, aX12_roundOf g)] o5.1).bind fun F6 =>
      (ah_rI (F6 [.ref a0, .int p1] z4.2)).bind fun z7 =>
      some (some (.int z7.1), z7.2)
  else
    some (some (.int (-101)), z3.2) := Eq.trans rfl rfl
set_option maxRecDepth 1000000 in
set_option maxHeartbeats 8000000 in
theorem eX12_oddsOf (g f : Nat) (a0 : Nat) (p1 : Int32) (h : ah_H) : ah_fun (kX12_oddsOf g) 7 (f + 1) [.ref a0, .int p1] h =
  ah_run (kX12_oddsOf g) f 7 [(0, .ref a0), (1, .int p1), (2, .int 0), (3, .int 0), (4, .int 0)] [] h := Eq.trans rfl rfl
set_option maxRecDepth 1000000 in
set_option maxHeartbeats 8000000 in
theorem rX12_oddsOf_7 (g f : Nat) (x0 : Nat) (x1 : Int32) (x2 : Int32) (x3 : Int32) (x4 : Int32) (h : ah_H) : ah_run (kX12_oddsOf g) (f + 1) 7 [(0, .ref x0), (1, .int x1), (2, .int x2), (3, .int x3), (4, .int x4)] [] h =
  (ah_fi h x0 [12] 2).bind fun v1 =>
  if (x4 : Int32) < v1 then
    ah_run (kX12_oddsOf g) f 22 [(0, .ref x0), (1, .int x1), (2, .int x2), (3, .int x3), (4, .int x4), (5, .int (x4 + 1))] [] h
  else
    if (x3 : Int32) = 0 then
      (ah_rI (aX12_common g [.int 1, .int x2] h)).bind fun z2 =>
      if (x1 : Int32) = 0 then
        if (z2.1 : Int32) = 0 then none else
        some (some (.int ((x2 : Int32) / z2.1)), z2.2)
      else
        if (z2.1 : Int32) = 0 then none else
        some (some (.int ((1 : Int32) / z2.1)), z2.2)
    else
      (ah_rI (aX12_common g [.int x3, .int x2] h)).bind fun z3 =>
      if (x1 : Int32) = 0 then
        if (z3.1 : Int32) = 0 then none else
        some (some (.int ((x2 : Int32) / z3.1)), z3.2)
      else
        if (z3.1 : Int32) = 0 then none else
        some (some (.int ((x3 : Int32) / z3.1)), z3.2) := Eq.trans rfl rfl
set_option maxRecDepth 1000000 in
set_option maxHeartbeats 8000000 in
theorem rX12_oddsOf_22 (g f : Nat) (x0 : Nat) (x1 : Int32) (x2 : Int32) (x3 : Int32) (x4 : Int32) (x5 : Int32) (h : ah_H) : ah_run (kX12_oddsOf g) (f + 1) 22 [(0, .ref x0), (1, .int x1), (2, .int x2), (3, .int x3), (4, .int x4), (5, .int x5)] [] h =
  (ah_fi h x0 [12] 2).bind fun v1 =>
  if (x5 : Int32) < v1 then
    (ah_fr h x0 [12] 11).bind fun v2 =>
    (ah_li h v2 0 x4).bind fun v3 =>
    if (v3 : Int32) = (-1) then
      (ah_fr h x0 [12] 11).bind fun v4 =>
      (ah_li h v4 0 x5).bind fun v5 =>
      if (v5 : Int32) = (-1) then
        ah_run (kX12_oddsOf g) f 58 [(0, .ref x0), (1, .int x1), (2, .int x2), (3, .int x3), (4, .int x4), (5, .int x5)] [.int 1] h
      else
        ah_run (kX12_oddsOf g) f 58 [(0, .ref x0), (1, .int x1), (2, .int x2), (3, .int x3), (4, .int x4), (5, .int x5)] [.int 0] h
    else
      ah_run (kX12_oddsOf g) f 58 [(0, .ref x0), (1, .int x1), (2, .int x2), (3, .int x3), (4, .int x4), (5, .int x5)] [.int 0] h
  else
    ah_run (kX12_oddsOf g) f 7 [(0, .ref x0), (1, .int x1), (2, .int x2), (3, .int x3), (4, .int (x4 + 1))] [] h := Eq.trans rfl rfl
set_option maxRecDepth 1000000 in
set_option maxHeartbeats 8000000 in
theorem rX12_oddsOf_58 (g f : Nat) (x0 : Nat) (x1 : Int32) (x2 : Int32) (x3 : Int32) (x4 : Int32) (x5 : Int32) (y0 : Int32) (h : ah_H) : ah_run (kX12_oddsOf g) (f + 1) 58 [(0, .ref x0), (1, .int x1), (2, .int x2), (3, .int x3), (4, .int x4), (5, .int x5)] [.int y0] h =
  if (y0 : Int32) = 0 then
    if (y0 : Int32) = 0 then
      ah_run (kX12_oddsOf g) f 22 [(0, .ref x0), (1, .int x1), (2, .int (x2 + 0)), (3, .int (x3 + 0)), (4, .int x4), (5, .int (x5 + 1))] [] h
    else
      (ah_ob h x0).bind fun o1 => (ah_sel [(12, aX12_mayBe g)] o1.1).bind fun F2 =>
      (ah_rI (F2 [.ref x0, .int x4, .int x5] h)).bind fun z3 =>
      if (z3.1 : Int32) = 0 then
        ah_run (kX12_oddsOf g) f 22 [(0, .ref x0), (1, .int x1), (2, .int (x2 + 0)), (3, .int (x3 + 0)), (4, .int x4), (5, .int (x5 + 1))] [] z3.2
      else
        ah_run (kX12_oddsOf g) f 22 [(0, .ref x0), (1, .int x1), (2, .int (x2 + 1)), (3, .int (x3 + 0)), (4, .int x4), (5, .int (x5 + 1))] [] z3.2
  else
    if (y0 : Int32) = 0 then
      ah_run (kX12_oddsOf g) f 22 [(0, .ref x0), (1, .int x1), (2, .int (x2 + 0)), (3, .int (x3 + 1)), (4, .int x4), (5, .int (x5 + 1))] [] h
    else
      (ah_ob h x0).bind fun o4 => (ah_sel [(12, aX12_mayBe g)] o4.1).bind fun F5 =>
      (ah_rI (F5 [.ref x0, .int x4, .int x5] h)).bind fun z6 =>
      if (z6.1 : Int32) = 0 then
        ah_run (kX12_oddsOf g) f 22 [(0, .ref x0), (1, .int x1), (2, .int (x2 + 0)), (3, .int (x3 + 1)), (4, .int x4), (5, .int (x5 + 1))] [] z6.2
      else
        ah_run (kX12_oddsOf g) f 22 [(0, .ref x0), (1, .int x1), (2, .int (x2 + 1)), (3, .int (x3 + 1)), (4, .int x4), (5, .int (x5 + 1))] [] z6.2 := Eq.trans rfl rfl
set_option maxRecDepth 1000000 in
set_option maxHeartbeats 8000000 in
theorem eX12_odds (g f : Nat) (a0 : Nat) (p1 : Int32) (h : ah_H) : ah_fun (kX12_odds g) 2 (f + 1) [.ref a0, .int p1] h =
  (ah_rI (aX12_in g [.long ((p1 : Int32).toInt64), .long 0, .long 1] h)).bind fun z1 =>
  if (z1.1 : Int32) = 0 then
    some (some (.int (-102)), z1.2)
  else
    (ah_ob z1.2 a0).bind fun o2 => (ah_sel [(12, aX12_lacks g)] o2.1).bind fun F3 =>
    (ah_rI (F3 [.ref a0] z1.2)).bind fun z4 =>
    if (z4.1 : Int32) = 0 then
      (ah_ob z4.2 a0).bind fun o5 => (ah_sel [(12, aX12_oddsOf g)] o5.1).bind fun F6 =>
      (ah_rI (F6 [.ref a0, .int p1] z4.2)).bind fun z7 =>
      some (some (.int z7.1), z7.2)
    else
      some (some (.int (-103)), z4.2) := Eq.trans rfl rfl
set_option maxRecDepth 1000000 in
set_option maxHeartbeats 8000000 in
theorem eX12_see (g f : Nat) (a0 : Nat) (p1 : Int32) (p2 : Int32) (p3 : Int32) (h : ah_H) : ah_fun (kX12_see g) 4 (f + 1) [.ref a0, .int p1, .int p2, .int p3] h =
  (ah_ob h a0).bind fun o1 => (ah_sel [(12, aX12_areTwo g)] o1.1).bind fun F2 =>
  (ah_rI (F2 [.ref a0, .int p1, .int p2] h)).bind fun z3 =>
  if (z3.1 : Int32) = 0 then
    some (some (.int (-101)), z3.2)
  else
    (ah_rI (aX12_in g [.long ((p3 : Int32).toInt64), .long (-1), .long 18] z3.2)).bind fun z4 =>
    if (z4.1 : Int32) = 0 then
      some (some (.int (-102)), z4.2)
    else
      (ah_fi z4.2 a0 [12] 15).bind fun v5 =>
      if (v5 : Int32) = 8 then
        some (some (.int (-104)), z4.2)
      else
        (ah_fr z4.2 a0 [12] 16).bind fun v6 =>
        (ah_fi z4.2 a0 [12] 15).bind fun v7 =>
        (ah_si z4.2 v6 0 (3 * v7) p1).bind fun h8 =>
        (ah_fr h8 a0 [12] 16).bind fun v9 =>
        (ah_fi h8 a0 [12] 15).bind fun v10 =>
        (ah_si h8 v9 0 ((3 * v10) + 1) p2).bind fun h11 =>
        (ah_fr h11 a0 [12] 16).bind fun v12 =>
        (ah_fi h11 a0 [12] 15).bind fun v13 =>
        (ah_si h11 v12 0 ((3 * v13) + 2) p3).bind fun h14 =>
        (ah_fi h14 a0 [12] 15).bind fun v15 =>
        (ah_sv h14 a0 [12] 15 (.int (v15 + 1))).bind fun h16 =>
        (ah_fi h16 a0 [12] 15).bind fun v17 =>
        some (some (.int v17), h16) := Eq.trans rfl rfl
set_option maxRecDepth 1000000 in
set_option maxHeartbeats 8000000 in
theorem eX12_forget (g f : Nat) (a0 : Nat) (h : ah_H) : ah_fun (kX12_forget g) 2 (f + 1) [.ref a0] h =
  (ah_fi h a0 [12] 15).bind fun v1 =>
  (ah_sv h a0 [12] 15 (.int 0)).bind fun h2 =>
  some (some (.int v1), h2) := Eq.trans rfl rfl
set_option maxRecDepth 1000000 in
set_option maxHeartbeats 8000000 in
theorem eX12_draw (g f : Nat) (a0 : Nat) (p1 : Int32) (h : ah_H) : ah_fun (kX12_draw g) 2 (f + 1) [.ref a0, .int p1] h =
  (ah_fi h a0 [12] 18).bind fun v1 =>
  (ah_sv h a0 [12] 18 (.int (((((1103515245 * ((v1 : Int32).toInt64)) + 12345) &&& 2147483647) : Int64).toInt32))).bind fun h2 =>
  (ah_fi h2 a0 [12] 18).bind fun v3 =>
  if (65536 : Int32) = 0 then none else
  if (p1 : Int32) = 0 then none else
  some (some (.int ((((v3 : Int32) / 65536) : Int32) - ((v3 : Int32) / 65536) / p1 * p1)), h2) := Eq.trans rfl rfl
set_option maxRecDepth 1000000 in
set_option maxHeartbeats 8000000 in
theorem eX12_winters (g f : Nat) (a0 : Nat) (p1 : Int32) (p2 : Int32) (p3 : Int32) (h : ah_H) : ah_fun (kX12_winters g) 9 (f + 1) [.ref a0, .int p1, .int p2, .int p3] h =
  (ah_rI (aX12_in g [.long ((p1 : Int32).toInt64), .long 1, .long 60] h)).bind fun z1 =>
  if (z1.1 : Int32) = 0 then
    some (some (.int (-102)), z1.2)
  else
    if (p2 : Int32) < 0 then
      some (some (.int (-102)), z1.2)
    else
      (ah_rI (aX12_in g [.long ((p3 : Int32).toInt64), .long 0, .long 2] z1.2)).bind fun z2 =>
      if (z2.1 : Int32) = 0 then
        some (some (.int (-102)), z2.2)
      else
        (ah_ob z2.2 a0).bind fun o3 => (ah_sel [(12, aX12_lacks g)] o3.1).bind fun F4 =>
        (ah_rI (F4 [.ref a0] z2.2)).bind fun z5 =>
        if (z5.1 : Int32) = 0 then
          (ah_fr z5.2 a0 [12] 11).bind fun v6 =>
          (ah_fr z5.2 a0 [12] 12).bind fun v7 =>
          (ah_rV (aX12_copy g [.ref v6, .ref v7] z5.2)).bind fun z8 =>
          (ah_sv z8 a0 [12] 18 (.int p2)).bind fun h9 =>
          ah_run (kX12_winters g) f 66 [(0, .ref a0), (1, .int p1), (3, .int p3), (4, .int 0), (5, .int 0), (6, .int 0)] [] h9
        else
          some (some (.int (-103)), z5.2) := Eq.trans rfl rfl
set_option maxRecDepth 1000000 in
set_option maxHeartbeats 8000000 in
theorem rX12_winters_66 (g f : Nat) (x0 : Nat) (x1 : Int32) (x3 : Int32) (x4 : Int32) (x5 : Int32) (x6 : Int32) (h : ah_H) : ah_run (kX12_winters g) (f + 1) 66 [(0, .ref x0), (1, .int x1), (3, .int x3), (4, .int x4), (5, .int x5), (6, .int x6)] [] h =
  if (x6 : Int32) < x1 then
    (ah_fi h x0 [12] 2).bind fun v1 =>
    (ah_ob h x0).bind fun o2 => (ah_sel [(12, aX12_draw g)] o2.1).bind fun F3 =>
    (ah_rI (F3 [.ref x0, .int v1] h)).bind fun z4 =>
    (ah_fi z4.2 x0 [12] 2).bind fun v5 =>
    (ah_ob z4.2 x0).bind fun o6 => (ah_sel [(12, aX12_draw g)] o6.1).bind fun F7 =>
    (ah_rI (F7 [.ref x0, .int v5] z4.2)).bind fun z8 =>
    if (z4.1 : Int32) = z8.1 then
      ah_run (kX12_winters g) f 66 [(0, .ref x0), (1, .int x1), (3, .int x3), (4, .int x4), (5, .int x5), (6, .int (x6 + 1))] [] z8.2
    else
      (ah_fr z8.2 x0 [12] 12).bind fun v9 =>
      (ah_li z8.2 v9 0 z4.1).bind fun v10 =>
      if (v10 : Int32) = (-1) then
        (ah_fr z8.2 x0 [12] 12).bind fun v11 =>
        (ah_li z8.2 v11 0 z8.1).bind fun v12 =>
        if (v12 : Int32) = (-1) then
          (ah_ob z8.2 x0).bind fun o13 => (ah_sel [(12, aX12_mayBe g)] o13.1).bind fun F14 =>
          (ah_rI (F14 [.ref x0, .int z4.1, .int z8.1] z8.2)).bind fun z15 =>
          if (z15.1 : Int32) = 0 then
            ah_run (kX12_winters g) f 66 [(0, .ref x0), (1, .int x1), (3, .int x3), (4, .int x4), (5, .int x5), (6, .int (x6 + 1))] [] z15.2
          else
            (ah_fr z15.2 x0 [12] 12).bind fun v16 =>
            (ah_si z15.2 v16 0 z4.1 z8.1).bind fun h17 =>
            (ah_fr h17 x0 [12] 12).bind fun v18 =>
            (ah_si h17 v18 0 z8.1 z4.1).bind fun h19 =>
            (ah_ob h19 x0).bind fun o20 => (ah_sel [(12, aX12_likenessOf g)] o20.1).bind fun F21 =>
            (ah_rI (F21 [.ref x0, .int z4.1, .int z8.1] h19)).bind fun z22 =>
            ah_run (kX12_winters g) f 66 [(0, .ref x0), (1, .int x1), (3, .int x3), (4, .int (x4 + 1)), (5, .int (x5 + z22.1)), (6, .int (x6 + 1))] [] z22.2
        else
          ah_run (kX12_winters g) f 66 [(0, .ref x0), (1, .int x1), (3, .int x3), (4, .int x4), (5, .int x5), (6, .int (x6 + 1))] [] z8.2
      else
        ah_run (kX12_winters g) f 66 [(0, .ref x0), (1, .int x1), (3, .int x3), (4, .int x4), (5, .int x5), (6, .int (x6 + 1))] [] z8.2
  else
    if (x3 : Int32) = 0 then
      some (some (.int x4), h)
    else
      if (x3 : Int32) = 1 then
        some (some (.int x5), h)
      else
        (ah_fi h x0 [12] 18).bind fun v23 =>
        some (some (.int v23), h) := Eq.trans rfl rfl
set_option maxRecDepth 1000000 in
set_option maxHeartbeats 8000000 in
theorem eX12_image (g f : Nat) (a0 : Nat) (h : ah_H) : ah_fun (kX12_image g) 1 (f + 1) [.ref a0] h =
  (ah_ob h a0).bind fun o1 => (ah_sel [(12, aX12_lacks g)] o1.1).bind fun F2 =>
  (ah_rI (F2 [.ref a0] h)).bind fun z3 =>
  if (z3.1 : Int32) = 0 then
    (ah_fr z3.2 a0 [12] 9).bind fun v4 =>
    (ah_fr z3.2 a0 [12] 25).bind fun v5 =>
    (ah_rV (aX12_copy g [.ref v4, .ref v5] z3.2)).bind fun z6 =>
    (ah_fr z6 a0 [12] 10).bind fun v7 =>
    (ah_fr z6 a0 [12] 26).bind fun v8 =>
    (ah_rV (aX12_copy g [.ref v7, .ref v8] z6)).bind fun z9 =>
    (ah_fr z9 a0 [12] 11).bind fun v10 =>
    (ah_fr z9 a0 [12] 27).bind fun v11 =>
    (ah_rV (aX12_copy g [.ref v10, .ref v11] z9)).bind fun z12 =>
    (ah_fr z12 a0 [12] 16).bind fun v13 =>
    (ah_fr z12 a0 [12] 28).bind fun v14 =>
    (ah_rV (aX12_copy g [.ref v13, .ref v14] z12)).bind fun z15 =>
    (ah_fi z15 a0 [12] 3).bind fun v16 =>
    (ah_sv z15 a0 [12] 20 (.int v16)).bind fun h17 =>
    (ah_fi h17 a0 [12] 4).bind fun v18 =>
    (ah_sv h17 a0 [12] 21 (.int v18)).bind fun h19 =>
    (ah_fi h19 a0 [12] 5).bind fun v20 =>
    (ah_sv h19 a0 [12] 22 (.int v20)).bind fun h21 =>
    (ah_fi h21 a0 [12] 6).bind fun v22 =>
    (ah_sv h21 a0 [12] 23 (.int v22)).bind fun h23 =>
    (ah_fi h23 a0 [12] 15).bind fun v24 =>
    (ah_sv h23 a0 [12] 24 (.int v24)).bind fun h25 =>
    (ah_fi h25 a0 [12] 7).bind fun v26 =>
    (ah_sv h25 a0 [12] 19 (.int v26)).bind fun h27 =>
    (ah_fi h27 a0 [12] 3).bind fun v28 =>
    some (some (.int v28), h27)
  else
    some (some (.int (-103)), z3.2) := Eq.trans rfl rfl
set_option maxRecDepth 1000000 in
set_option maxHeartbeats 8000000 in
theorem eX12_restore (g f : Nat) (a0 : Nat) (h : ah_H) : ah_fun (kX12_restore g) 1 (f + 1) [.ref a0] h =
  (ah_fi h a0 [12] 19).bind fun v1 =>
  (ah_fi h a0 [12] 7).bind fun v2 =>
  if (v1 : Int32) = v2 then
    (ah_fr h a0 [12] 25).bind fun v3 =>
    (ah_fr h a0 [12] 9).bind fun v4 =>
    (ah_rV (aX12_copy g [.ref v3, .ref v4] h)).bind fun z5 =>
    (ah_fr z5 a0 [12] 26).bind fun v6 =>
    (ah_fr z5 a0 [12] 10).bind fun v7 =>
    (ah_rV (aX12_copy g [.ref v6, .ref v7] z5)).bind fun z8 =>
    (ah_fr z8 a0 [12] 27).bind fun v9 =>
    (ah_fr z8 a0 [12] 11).bind fun v10 =>
    (ah_rV (aX12_copy g [.ref v9, .ref v10] z8)).bind fun z11 =>
    (ah_fr z11 a0 [12] 28).bind fun v12 =>
    (ah_fr z11 a0 [12] 16).bind fun v13 =>
    (ah_rV (aX12_copy g [.ref v12, .ref v13] z11)).bind fun z14 =>
    (ah_fi z14 a0 [12] 20).bind fun v15 =>
    (ah_sv z14 a0 [12] 3 (.int v15)).bind fun h16 =>
    (ah_fi h16 a0 [12] 21).bind fun v17 =>
    (ah_sv h16 a0 [12] 4 (.int v17)).bind fun h18 =>
    (ah_fi h18 a0 [12] 22).bind fun v19 =>
    (ah_sv h18 a0 [12] 5 (.int v19)).bind fun h20 =>
    (ah_fi h20 a0 [12] 23).bind fun v21 =>
    (ah_sv h20 a0 [12] 6 (.int v21)).bind fun h22 =>
    (ah_fi h22 a0 [12] 24).bind fun v23 =>
    (ah_sv h22 a0 [12] 15 (.int v23)).bind fun h24 =>
    (ah_fi h24 a0 [12] 3).bind fun v25 =>
    some (some (.int v25), h24)
  else
    some (some (.int (-103)), h) := Eq.trans rfl rfl
set_option maxRecDepth 1000000 in
set_option maxHeartbeats 8000000 in
theorem eX12_likenessNow (g f : Nat) (a0 : Nat) (h : ah_H) : ah_fun (kX12_likenessNow g) 3 (f + 1) [.ref a0] h =
  ah_run (kX12_likenessNow g) f 4 [(0, .ref a0), (1, .int 0), (2, .int 0)] [] h := Eq.trans rfl rfl
set_option maxRecDepth 1000000 in
set_option maxHeartbeats 8000000 in
theorem rX12_likenessNow_4 (g f : Nat) (x0 : Nat) (x1 : Int32) (x2 : Int32) (h : ah_H) : ah_run (kX12_likenessNow g) (f + 1) 4 [(0, .ref x0), (1, .int x1), (2, .int x2)] [] h =
  (ah_fi h x0 [12] 2).bind fun v1 =>
  if (x2 : Int32) < v1 then
    (ah_fr h x0 [12] 11).bind fun v2 =>
    (ah_li h v2 0 x2).bind fun v3 =>
    if (x2 : Int32) < v3 then
      (ah_fr h x0 [12] 11).bind fun v4 =>
      (ah_li h v4 0 x2).bind fun v5 =>
      (ah_ob h x0).bind fun o6 => (ah_sel [(12, aX12_likenessOf g)] o6.1).bind fun F7 =>
      (ah_rI (F7 [.ref x0, .int x2, .int v5] h)).bind fun z8 =>
      ah_run (kX12_likenessNow g) f 4 [(0, .ref x0), (1, .int (x1 + z8.1)), (2, .int (x2 + 1))] [] z8.2
    else
      ah_run (kX12_likenessNow g) f 4 [(0, .ref x0), (1, .int (x1 + 0)), (2, .int (x2 + 1))] [] h
  else
    some (some (.int x1), h) := Eq.trans rfl rfl
set_option maxRecDepth 1000000 in
set_option maxHeartbeats 8000000 in
theorem eX12_mayTwos (g f : Nat) (a0 : Nat) (h : ah_H) : ah_fun (kX12_mayTwos g) 3 (f + 1) [.ref a0] h =
  ah_run (kX12_mayTwos g) f 4 [(0, .ref a0), (1, .int 0), (2, .int 0)] [] h := Eq.trans rfl rfl
set_option maxRecDepth 1000000 in
set_option maxHeartbeats 8000000 in
theorem rX12_mayTwos_4 (g f : Nat) (x0 : Nat) (x1 : Int32) (x2 : Int32) (h : ah_H) : ah_run (kX12_mayTwos g) (f + 1) 4 [(0, .ref x0), (1, .int x1), (2, .int x2)] [] h =
  (ah_fi h x0 [12] 2).bind fun v1 =>
  if (x2 : Int32) < v1 then
    (ah_ob h x0).bind fun o2 => (ah_sel [(12, aX12_mayBits g)] o2.1).bind fun F3 =>
    (ah_rI (F3 [.ref x0, .int x2] h)).bind fun z4 =>
    (ah_rI (aX12_ones g [.int z4.1] z4.2)).bind fun z5 =>
    ah_run (kX12_mayTwos g) f 4 [(0, .ref x0), (1, .int (x1 + z5.1)), (2, .int (x2 + 1))] [] z5.2
  else
    if (2 : Int32) = 0 then none else
    some (some (.int ((x1 : Int32) / 2)), h) := Eq.trans rfl rfl
set_option maxRecDepth 1000000 in
set_option maxHeartbeats 8000000 in
theorem eX12_aloneOf (g f : Nat) (a0 : Nat) (p1 : Int32) (h : ah_H) : ah_fun (kX12_aloneOf g) 4 (f + 1) [.ref a0, .int p1] h =
  ah_run (kX12_aloneOf g) f 4 [(0, .ref a0), (1, .int p1), (2, .int 0), (3, .int 0)] [] h := Eq.trans rfl rfl
set_option maxRecDepth 1000000 in
set_option maxHeartbeats 8000000 in
theorem rX12_aloneOf_4 (g f : Nat) (x0 : Nat) (x1 : Int32) (x2 : Int32) (x3 : Int32) (h : ah_H) : ah_run (kX12_aloneOf g) (f + 1) 4 [(0, .ref x0), (1, .int x1), (2, .int x2), (3, .int x3)] [] h =
  (ah_fi h x0 [12] 2).bind fun v1 =>
  if (x3 : Int32) < v1 then
    (ah_fr h x0 [12] 11).bind fun v2 =>
    (ah_li h v2 0 x3).bind fun v3 =>
    if (v3 : Int32) = (-1) then
      (ah_fr h x0 [12] 8).bind fun v4 =>
      (ah_li h v4 0 ((2 * x3) + 1)).bind fun v5 =>
      if (v5 : Int32) = x1 then
        ah_run (kX12_aloneOf g) f 4 [(0, .ref x0), (1, .int x1), (2, .int (x2 + 1)), (3, .int (x3 + 1))] [] h
      else
        ah_run (kX12_aloneOf g) f 4 [(0, .ref x0), (1, .int x1), (2, .int (x2 + 0)), (3, .int (x3 + 1))] [] h
    else
      ah_run (kX12_aloneOf g) f 4 [(0, .ref x0), (1, .int x1), (2, .int (x2 + 0)), (3, .int (x3 + 1))] [] h
  else
    some (some (.int x2), h) := Eq.trans rfl rfl
set_option maxRecDepth 1000000 in
set_option maxHeartbeats 8000000 in
theorem eX12_countOf (g f : Nat) (a0 : Nat) (p1 : Int32) (h : ah_H) : ah_fun (kX12_countOf g) 2 (f + 1) [.ref a0, .int p1] h =
  if (p1 : Int32) = 0 then
    (ah_fi h a0 [12] 2).bind fun v1 =>
    some (some (.int v1), h)
  else if (p1 : Int32) = 1 then
    (ah_fr h a0 [12] 11).bind fun v2 =>
    (ah_ob h a0).bind fun o3 => (ah_sel [(12, aX12_pairsOf g)] o3.1).bind fun F4 =>
    (ah_rI (F4 [.ref a0, .ref v2] h)).bind fun z5 =>
    some (some (.int z5.1), z5.2)
  else if (p1 : Int32) = 2 then
    (ah_ob h a0).bind fun o6 => (ah_sel [(12, aX12_likenessNow g)] o6.1).bind fun F7 =>
    (ah_rI (F7 [.ref a0] h)).bind fun z8 =>
    some (some (.int z8.1), z8.2)
  else if (p1 : Int32) = 3 then
    (ah_ob h a0).bind fun o9 => (ah_sel [(12, aX12_mayTwos g)] o9.1).bind fun F10 =>
    (ah_rI (F10 [.ref a0] h)).bind fun z11 =>
    some (some (.int z11.1), z11.2)
  else if (p1 : Int32) = 4 then
    (ah_ob h a0).bind fun o12 => (ah_sel [(12, aX12_aloneOf g)] o12.1).bind fun F13 =>
    (ah_rI (F13 [.ref a0, .int (p1 - 4)] h)).bind fun z14 =>
    some (some (.int z14.1), z14.2)
  else if (p1 : Int32) = 5 then
    (ah_ob h a0).bind fun o15 => (ah_sel [(12, aX12_aloneOf g)] o15.1).bind fun F16 =>
    (ah_rI (F16 [.ref a0, .int (p1 - 4)] h)).bind fun z17 =>
    some (some (.int z17.1), z17.2)
  else if (p1 : Int32) = 6 then
    (ah_fi h a0 [12] 3).bind fun v18 =>
    some (some (.int v18), h)
  else if (p1 : Int32) = 7 then
    (ah_fi h a0 [12] 4).bind fun v19 =>
    some (some (.int v19), h)
  else if (p1 : Int32) = 8 then
    (ah_fi h a0 [12] 5).bind fun v20 =>
    some (some (.int v20), h)
  else if (p1 : Int32) = 9 then
    (ah_fi h a0 [12] 6).bind fun v21 =>
    some (some (.int v21), h)
  else if (p1 : Int32) = 10 then
    (ah_fi h a0 [12] 15).bind fun v22 =>
    some (some (.int v22), h)
  else if (p1 : Int32) = 11 then
    (ah_fi h a0 [12] 1).bind fun v23 =>
    some (some (.int v23), h)
  else if (p1 : Int32) = 12 then
    (ah_fi h a0 [12] 7).bind fun v24 =>
    some (some (.int v24), h)
  else 
    some (some (.int (-102)), h) := Eq.trans rfl rfl
set_option maxRecDepth 1000000 in
set_option maxHeartbeats 8000000 in
theorem eX12_count (g f : Nat) (a0 : Nat) (p1 : Int32) (h : ah_H) : ah_fun (kX12_count g) 2 (f + 1) [.ref a0, .int p1] h =
  (ah_ob h a0).bind fun o1 => (ah_sel [(12, aX12_countOf g)] o1.1).bind fun F2 =>
  (ah_rI (F2 [.ref a0, .int p1] h)).bind fun z3 =>
  some (some (.int z3.1), z3.2) := Eq.trans rfl rfl
set_option maxRecDepth 1000000 in
set_option maxHeartbeats 8000000 in
theorem eX12_say (g f : Nat) (a0 : Nat) (p1 : Int64) (h : ah_H) : ah_fun (kX12_say g) 3 (f + 1) [.ref a0, .long p1] h =
  (ah_fl h a0 [12] 29).bind fun v1 =>
  (ah_sv h a0 [12] 29 (.long ((31 * v1) + p1))).bind fun h2 =>
  some (none, h2) := Eq.trans rfl rfl
set_option maxRecDepth 1000000 in
set_option maxHeartbeats 8000000 in
theorem eX12_sayDrawer (g f : Nat) (a0 : Nat) (h : ah_H) : ah_fun (kX12_sayDrawer g) 2 (f + 1) [.ref a0] h =
  (ah_ob h a0).bind fun o1 => (ah_sel [(12, aX12_mostOf g)] o1.1).bind fun F2 =>
  (ah_rI (F2 [.ref a0, .int 0] h)).bind fun z3 =>
  (ah_ob z3.2 a0).bind fun o4 => (ah_sel [(12, aX12_say g)] o4.1).bind fun F5 =>
  (ah_rV (F5 [.ref a0, .long ((z3.1 : Int32).toInt64)] z3.2)).bind fun z6 =>
  (ah_ob z6 a0).bind fun o7 => (ah_sel [(12, aX12_mostOf g)] o7.1).bind fun F8 =>
  (ah_rI (F8 [.ref a0, .int 1] z6)).bind fun z9 =>
  (ah_ob z9.2 a0).bind fun o10 => (ah_sel [(12, aX12_say g)] o10.1).bind fun F11 =>
  (ah_rV (F11 [.ref a0, .long ((z9.1 : Int32).toInt64)] z9.2)).bind fun z12 =>
  ah_run (kX12_sayDrawer g) f 23 [(0, .ref a0), (1, .int 10)] [] z12 := Eq.trans rfl rfl
set_option maxRecDepth 1000000 in
set_option maxHeartbeats 8000000 in
theorem rX12_sayDrawer_23 (g f : Nat) (x0 : Nat) (x1 : Int32) (h : ah_H) : ah_run (kX12_sayDrawer g) (f + 1) 23 [(0, .ref x0), (1, .int x1)] [] h =
  if (x1 : Int32) < 17 then
    (ah_ob h x0).bind fun o1 => (ah_sel [(12, aX12_mostOf g)] o1.1).bind fun F2 =>
    (ah_rI (F2 [.ref x0, .int x1] h)).bind fun z3 =>
    (ah_ob z3.2 x0).bind fun o4 => (ah_sel [(12, aX12_say g)] o4.1).bind fun F5 =>
    (ah_rV (F5 [.ref x0, .long ((z3.1 : Int32).toInt64)] z3.2)).bind fun z6 =>
    ah_run (kX12_sayDrawer g) f 23 [(0, .ref x0), (1, .int (x1 + 1))] [] z6
  else
    (ah_ob h x0).bind fun o7 => (ah_sel [(12, aX12_bestOf g)] o7.1).bind fun F8 =>
    (ah_rI (F8 [.ref x0, .int 4, .int 0] h)).bind fun z9 =>
    (ah_ob z9.2 x0).bind fun o10 => (ah_sel [(12, aX12_say g)] o10.1).bind fun F11 =>
    (ah_rV (F11 [.ref x0, .long ((z9.1 : Int32).toInt64)] z9.2)).bind fun z12 =>
    (ah_ob z12 x0).bind fun o13 => (ah_sel [(12, aX12_bestOf g)] o13.1).bind fun F14 =>
    (ah_rI (F14 [.ref x0, .int 4, .int 1] z12)).bind fun z15 =>
    (ah_ob z15.2 x0).bind fun o16 => (ah_sel [(12, aX12_say g)] o16.1).bind fun F17 =>
    (ah_rV (F17 [.ref x0, .long ((z15.1 : Int32).toInt64)] z15.2)).bind fun z18 =>
    (ah_ob z18 x0).bind fun o19 => (ah_sel [(12, aX12_stableOf g)] o19.1).bind fun F20 =>
    (ah_rI (F20 [.ref x0, .int 0] z18)).bind fun z21 =>
    (ah_ob z21.2 x0).bind fun o22 => (ah_sel [(12, aX12_say g)] o22.1).bind fun F23 =>
    (ah_rV (F23 [.ref x0, .long ((z21.1 : Int32).toInt64)] z21.2)).bind fun z24 =>
    (ah_ob z24 x0).bind fun o25 => (ah_sel [(12, aX12_stableOf g)] o25.1).bind fun F26 =>
    (ah_rI (F26 [.ref x0, .int 1] z24)).bind fun z27 =>
    (ah_ob z27.2 x0).bind fun o28 => (ah_sel [(12, aX12_say g)] o28.1).bind fun F29 =>
    (ah_rV (F29 [.ref x0, .long ((z27.1 : Int32).toInt64)] z27.2)).bind fun z30 =>
    ah_run (kX12_sayDrawer g) f 89 [(0, .ref x0), (1, .int 0)] [] z30 := Eq.trans rfl rfl
set_option maxRecDepth 1000000 in
set_option maxHeartbeats 8000000 in
theorem rX12_sayDrawer_89 (g f : Nat) (x0 : Nat) (x1 : Int32) (h : ah_H) : ah_run (kX12_sayDrawer g) (f + 1) 89 [(0, .ref x0), (1, .int x1)] [] h =
  if (x1 : Int32) < 6 then
    (ah_ob h x0).bind fun o1 => (ah_sel [(12, aX12_roundOf g)] o1.1).bind fun F2 =>
    (ah_rI (F2 [.ref x0, .int x1] h)).bind fun z3 =>
    (ah_ob z3.2 x0).bind fun o4 => (ah_sel [(12, aX12_say g)] o4.1).bind fun F5 =>
    (ah_rV (F5 [.ref x0, .long ((z3.1 : Int32).toInt64)] z3.2)).bind fun z6 =>
    ah_run (kX12_sayDrawer g) f 89 [(0, .ref x0), (1, .int (x1 + 1))] [] z6
  else
    (ah_ob h x0).bind fun o7 => (ah_sel [(12, aX12_oddsOf g)] o7.1).bind fun F8 =>
    (ah_rI (F8 [.ref x0, .int 0] h)).bind fun z9 =>
    (ah_ob z9.2 x0).bind fun o10 => (ah_sel [(12, aX12_say g)] o10.1).bind fun F11 =>
    (ah_rV (F11 [.ref x0, .long ((z9.1 : Int32).toInt64)] z9.2)).bind fun z12 =>
    (ah_ob z12 x0).bind fun o13 => (ah_sel [(12, aX12_oddsOf g)] o13.1).bind fun F14 =>
    (ah_rI (F14 [.ref x0, .int 1] z12)).bind fun z15 =>
    (ah_ob z15.2 x0).bind fun o16 => (ah_sel [(12, aX12_say g)] o16.1).bind fun F17 =>
    (ah_rV (F17 [.ref x0, .long ((z15.1 : Int32).toInt64)] z15.2)).bind fun z18 =>
    some (none, z18) := Eq.trans rfl rfl
set_option maxRecDepth 1000000 in
set_option maxHeartbeats 8000000 in
theorem eX12_digest (g f : Nat) (a0 : Nat) (h : ah_H) : ah_fun (kX12_digest g) 3 (f + 1) [.ref a0] h =
  (ah_sv h a0 [12] 29 (.long 1129)).bind fun h1 =>
  ah_run (kX12_digest g) f 9 [(0, .ref a0), (1, .int 0)] [] h1 := Eq.trans rfl rfl
set_option maxRecDepth 1000000 in
set_option maxHeartbeats 8000000 in
theorem rX12_digest_9 (g f : Nat) (x0 : Nat) (x1 : Int32) (h : ah_H) : ah_run (kX12_digest g) (f + 1) 9 [(0, .ref x0), (1, .int x1)] [] h =
  (ah_fi h x0 [12] 2).bind fun v1 =>
  if (x1 : Int32) < v1 then
    ah_run (kX12_digest g) f 19 [(0, .ref x0), (1, .int x1), (2, .int 0)] [] h
  else
    (ah_ob h x0).bind fun o2 => (ah_sel [(12, aX12_lacks g)] o2.1).bind fun F3 =>
    (ah_rI (F3 [.ref x0] h)).bind fun z4 =>
    if (z4.1 : Int32) = 0 then
      (ah_ob z4.2 x0).bind fun o5 => (ah_sel [(12, aX12_sayDrawer g)] o5.1).bind fun F6 =>
      (ah_rV (F6 [.ref x0] z4.2)).bind fun z7 =>
      ah_run (kX12_digest g) f 93 [(0, .ref x0), (1, .int 0)] [] z7
    else
      ah_run (kX12_digest g) f 93 [(0, .ref x0), (1, .int 0)] [] z4.2 := Eq.trans rfl rfl
set_option maxRecDepth 1000000 in
set_option maxHeartbeats 8000000 in
theorem rX12_digest_19 (g f : Nat) (x0 : Nat) (x1 : Int32) (x2 : Int32) (h : ah_H) : ah_run (kX12_digest g) (f + 1) 19 [(0, .ref x0), (1, .int x1), (2, .int x2)] [] h =
  if (x2 : Int32) < 11 then
    (ah_ob h x0).bind fun o1 => (ah_sel [(12, aX12_tellSingle g)] o1.1).bind fun F2 =>
    (ah_rI (F2 [.ref x0, .int x1, .int x2] h)).bind fun z3 =>
    (ah_ob z3.2 x0).bind fun o4 => (ah_sel [(12, aX12_say g)] o4.1).bind fun F5 =>
    (ah_rV (F5 [.ref x0, .long ((z3.1 : Int32).toInt64)] z3.2)).bind fun z6 =>
    ah_run (kX12_digest g) f 19 [(0, .ref x0), (1, .int x1), (2, .int (x2 + 1))] [] z6
  else
    ah_run (kX12_digest g) f 44 [(0, .ref x0), (1, .int x1), (2, .int 0)] [] h := Eq.trans rfl rfl
set_option maxRecDepth 1000000 in
set_option maxHeartbeats 8000000 in
theorem rX12_digest_44 (g f : Nat) (x0 : Nat) (x1 : Int32) (x2 : Int32) (h : ah_H) : ah_run (kX12_digest g) (f + 1) 44 [(0, .ref x0), (1, .int x1), (2, .int x2)] [] h =
  (ah_fi h x0 [12] 2).bind fun v1 =>
  if (x2 : Int32) < v1 then
    if (x2 : Int32) = x1 then
      ah_run (kX12_digest g) f 44 [(0, .ref x0), (1, .int x1), (2, .int (x2 + 1))] [] h
    else
      (ah_ob h x0).bind fun o2 => (ah_sel [(12, aX12_likenessOf g)] o2.1).bind fun F3 =>
      (ah_rI (F3 [.ref x0, .int x1, .int x2] h)).bind fun z4 =>
      (ah_ob z4.2 x0).bind fun o5 => (ah_sel [(12, aX12_say g)] o5.1).bind fun F6 =>
      (ah_rV (F6 [.ref x0, .long ((z4.1 : Int32).toInt64)] z4.2)).bind fun z7 =>
      ah_run (kX12_digest g) f 44 [(0, .ref x0), (1, .int x1), (2, .int (x2 + 1))] [] z7
  else
    ah_run (kX12_digest g) f 9 [(0, .ref x0), (1, .int (x1 + 1))] [] h := Eq.trans rfl rfl
set_option maxRecDepth 1000000 in
set_option maxHeartbeats 8000000 in
theorem rX12_digest_93 (g f : Nat) (x0 : Nat) (x1 : Int32) (h : ah_H) : ah_run (kX12_digest g) (f + 1) 93 [(0, .ref x0), (1, .int x1)] [] h =
  (ah_fi h x0 [12] 1).bind fun v1 =>
  if (x1 : Int32) < v1 then
    (ah_fr h x0 [12] 0).bind fun v2 =>
    (ah_li h v2 0 x1).bind fun v3 =>
    (ah_ob h x0).bind fun o4 => (ah_sel [(12, aX12_say g)] o4.1).bind fun F5 =>
    (ah_rV (F5 [.ref x0, .long ((v3 : Int32).toInt64)] h)).bind fun z6 =>
    ah_run (kX12_digest g) f 93 [(0, .ref x0), (1, .int (x1 + 1))] [] z6
  else
    ah_run (kX12_digest g) f 120 [(0, .ref x0), (1, .int 0)] [] h := Eq.trans rfl rfl
set_option maxRecDepth 1000000 in
set_option maxHeartbeats 8000000 in
theorem rX12_digest_120 (g f : Nat) (x0 : Nat) (x1 : Int32) (h : ah_H) : ah_run (kX12_digest g) (f + 1) 120 [(0, .ref x0), (1, .int x1)] [] h =
  if (x1 : Int32) < 13 then
    (ah_ob h x0).bind fun o1 => (ah_sel [(12, aX12_countOf g)] o1.1).bind fun F2 =>
    (ah_rI (F2 [.ref x0, .int x1] h)).bind fun z3 =>
    (ah_ob z3.2 x0).bind fun o4 => (ah_sel [(12, aX12_say g)] o4.1).bind fun F5 =>
    (ah_rV (F5 [.ref x0, .long ((z3.1 : Int32).toInt64)] z3.2)).bind fun z6 =>
    ah_run (kX12_digest g) f 120 [(0, .ref x0), (1, .int (x1 + 1))] [] z6
  else
    (ah_fl h x0 [12] 29).bind fun v7 =>
    some (some (.long v7), h) := Eq.trans rfl rfl
