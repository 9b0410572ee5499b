abbrev iX5_init : MI := (yX5_init, cX5_init, 1, (Option.none : Option FieldType))
def fX5_init (t0 : Nat) (u : Mem) : Option (Mem) :=
  (pfI u (some t0) 5 2 (3 : Int32)).bind fun u1 =>
  (pfI u1 (some t0) 5 3 (-1 : Int32)).bind fun u2 =>
  some u2
abbrev iX0_init : MI := (yX0_init, cX0_init, 2, (Option.none : Option FieldType))
def bX0_init_35 (t0 : Nat) (s1 : Int32) (u : Mem) : Option ((Int32 × Mem) ⊕ (Mem)) :=
  if s1 < (20 : Int32) then
    (gfR u (some t0) 0 0).bind fun v11 =>
    bnd2 (nwc u 5 5) fun a12 u13 =>
    (fX5_init a12 u13).bind fun u14 =>
    (asR u14 v11 24 5 s1 (some a12)).bind fun u15 =>
    nm (s1 + 1 : Int32) fun x16 =>
    some (.inl (x16, u15))
  else
    some (.inr u)
def fX0_init (t0 : Nat) (u : Mem) : Option (Mem) :=
  bnd2 (nwc u 24 20) fun a1 u2 =>
  (pfR u2 (some t0) 0 0 (some a1)).bind fun u3 =>
  bnd2 (nwc u3 25 400) fun a4 u5 =>
  (pfR u5 (some t0) 0 1 (some a4)).bind fun u6 =>
  bnd2 (nwc u6 25 300) fun a7 u8 =>
  (pfR u8 (some t0) 0 2 (some a7)).bind fun u9 =>
  (lp (fun s : Int32 × Mem => bX0_init_35 t0 s.1 s.2) FU ((0 : Int32), u9)).bind fun r17 =>
  some r17
abbrev iX0_hasQuestion : MI := (yX0_hasQuestion, cX0_hasQuestion, 2, (some .boolean))
def fX0_hasQuestion (t0 : Nat) (p1 : Int32) (u : Mem) : Option (Int32) :=
  if p1 < 0 then
    some (0 : Int32)
  else
    (gfI u (some t0) 0 3).bind fun v2 =>
    if p1 < v2 then
      some (1 : Int32)
    else
      some (0 : Int32)
abbrev iX0_addQuestion : MI := (yX0_addQuestion, cX0_addQuestion, 4, (some .int))
def fX0_addQuestion (t0 : Nat) (p1 : Int32) (p2 : Int32) (u : Mem) : Option (Int32 × Mem) :=
  (gfI u (some t0) 0 3).bind fun v1 =>
  (gfR u (some t0) 0 0).bind fun v2 =>
  (alR u v2 24 v1).bind fun v3 =>
  (pfI u v3 5 0 p1).bind fun u4 =>
  (gfR u4 (some t0) 0 0).bind fun v5 =>
  (alR u4 v5 24 v1).bind fun v6 =>
  (pfI u4 v6 5 1 p2).bind fun u7 =>
  (gfI u7 (some t0) 0 3).bind fun v8 =>
  (pfI u7 (some t0) 0 3 (v8 + (1 : Int32))).bind fun u9 =>
  (gfI u9 (some t0) 0 5).bind fun v10 =>
  (pfI u9 (some t0) 0 5 (v10 + (1 : Int32))).bind fun u11 =>
  some (v1, u11)
abbrev iX10_cell : MI := (yX10_cell, cX10_cell, 2, (some .int))
def fX10_cell (p0 : Int32) (p1 : Int32) (u : Mem) : Option (Int32) :=
  some ((p0 * (20 : Int32)) + p1)
abbrev iX3_init : MI := (yX3_init, cX3_init, 6, (Option.none : Option FieldType))
def fX3_init (t0 : Nat) (p1 : Int32) (p2 : Int32) (p3 : Int32) (p4 : Int32) (p5 : Option Nat) (u : Mem) : Option (Mem) :=
  (pfI u (some t0) 3 0 p1).bind fun u1 =>
  (pfI u1 (some t0) 3 1 p2).bind fun u2 =>
  (pfI u2 (some t0) 3 2 p3).bind fun u3 =>
  (pfI u3 (some t0) 3 3 p4).bind fun u4 =>
  (pfR u4 (some t0) 3 4 p5).bind fun u5 =>
  some u5
abbrev iX0_isBehind : MI := (yX0_isBehind, cX0_isBehind, 2, (some .boolean))
def fX0_isBehind (p0 : Option Nat) (p1 : Int32) (u : Mem) : Option (Int32) :=
  if p0 = none then
    some (0 : Int32)
  else
    (gfI u p0 3 2).bind fun v2 =>
    if p1 < v2 then
      some (1 : Int32)
    else
      some (0 : Int32)
abbrev iX0_addGuess : MI := (yX0_addGuess, cX0_addGuess, 8, (some .int))
def bX0_addGuess_46 (t0 : Nat) (i2 : Int32) (i3 : Int32) (i5 : Int32) (t6 : Nat) (s7 : Int32) (u : Mem) : Option ((Int32 × Mem) ⊕ (Int32 × Mem)) :=
  if 0 < s7 then
    (gfR u (some t0) 0 2).bind fun v12 =>
    (alR u v12 25 (s7 - (1 : Int32))).bind fun v13 =>
    (fX0_isBehind v13 i3 u).bind fun v14 =>
    if v14 = 0 then
      some (.inr (s7, u))
    else
      (gfR u (some t0) 0 2).bind fun v16 =>
      (gfR u (some t0) 0 2).bind fun v17 =>
      (alR u v17 25 (s7 - (1 : Int32))).bind fun v18 =>
      (asR u v16 25 3 s7 v18).bind fun u19 =>
      nm (s7 + (-1) : Int32) fun x20 =>
      some (.inl (x20, u19))
  else
    some (.inr (s7, u))
def jX0_addGuess_89 (t0 : Nat) (p2 : Int32) (p5 : Int32) (p6 : Option Nat) (p7 : Int32) (u : Mem) : Option (Int32 × Mem) :=
  (gfR u (some t0) 0 2).bind fun v22 =>
  (asR u v22 25 3 p7 p6).bind fun u23 =>
  (gfR u23 (some t0) 0 0).bind fun v24 =>
  (alR u23 v24 24 p2).bind fun v25 =>
  (gfI u23 v25 5 4).bind fun v26 =>
  (pfI u23 v25 5 4 (v26 + (1 : Int32))).bind fun u27 =>
  (gfI u27 (some t0) 0 4).bind fun v28 =>
  (pfI u27 (some t0) 0 4 (v28 + (1 : Int32))).bind fun u29 =>
  (gfI u29 (some t0) 0 5).bind fun v30 =>
  (pfI u29 (some t0) 0 5 (v30 + (1 : Int32))).bind fun u31 =>
  some (p5, u31)
def fX0_addGuess (t0 : Nat) (p1 : Int32) (p2 : Int32) (p3 : Int32) (p4 : Int32) (u : Mem) : Option (Int32 × Mem) :=
  (gfI u (some t0) 0 4).bind fun v1 =>
  bnd2 (nwc u 3 5) fun a2 u3 =>
  (gfR u3 (some t0) 0 1).bind fun v4 =>
  (fX10_cell p1 p2 u3).bind fun v5 =>
  (alR u3 v4 25 v5).bind fun v6 =>
  (fX3_init a2 p1 p2 p3 p4 v6 u3).bind fun u7 =>
  (gfR u7 (some t0) 0 1).bind fun v8 =>
  (fX10_cell p1 p2 u7).bind fun v9 =>
  (asR u7 v8 25 3 v9 (some a2)).bind fun u10 =>
  (lp (fun s : Int32 × Mem => bX0_addGuess_46 t0 p2 p3 v1 a2 s.1 s.2) FU (v1, u10)).bind fun r21 =>
  jX0_addGuess_89 t0 p2 v1 (some a2) r21.1 r21.2
abbrev iX0_hasLaterGuess : MI := (yX0_hasLaterGuess, cX0_hasLaterGuess, 4, (some .boolean))
def fX0_hasLaterGuess (t0 : Nat) (p1 : Int32) (p2 : Int32) (p3 : Int32) (u : Mem) : Option (Int32) :=
  (gfR u (some t0) 0 1).bind fun v1 =>
  (fX10_cell p1 p2 u).bind fun v2 =>
  (alR u v1 25 v2).bind fun v3 =>
  (fX0_isBehind v3 p3 u).bind fun v4 =>
  retZ v4
abbrev iX0_latestUpTo : MI := (yX0_latestUpTo, cX0_latestUpTo, 4, (some (.object "ForeBook$Guess")))
def bX0_latestUpTo_7 (i2 : Int32) (u : Mem) (s3 : Option Nat) : Option ((Option Nat) ⊕ (Option Nat)) :=
  if s3 = none then
    some (.inr s3)
  else
    (gfI u s3 3 2).bind fun v4 =>
    if i2 < v4 then
      (gfR u s3 3 4).bind fun v6 =>
      some (.inl v6)
    else
      some (.inr s3)
def fX0_latestUpTo (t0 : Nat) (p1 : Int32) (p2 : Int32) (u : Mem) : Option (Option Nat) :=
  (gfR u (some t0) 0 1).bind fun v1 =>
  (alR u v1 25 p1).bind fun v2 =>
  (lp (fun s : Option Nat => bX0_latestUpTo_7 p2 u s) FU v2).bind fun r7 =>
  some r7
abbrev iX0_heldTenth : MI := (yX0_heldTenth, cX0_heldTenth, 5, (some .int))
def fX0_heldTenth (t0 : Nat) (p1 : Int32) (p2 : Int32) (p3 : Int32) (u : Mem) : Option (Int32) :=
  (fX10_cell p1 p2 u).bind fun v1 =>
  (chk u (some t0) 0).bind fun b2 =>
  (fX0_latestUpTo t0 v1 p3 u).bind fun v3 =>
  if v3 = none then
    some (-1 : Int32)
  else
    (gfI u v3 3 3).bind fun v5 =>
    some v5
abbrev iX1_init : MI := (yX1_init, cX1_init, 3, (Option.none : Option FieldType))
def fX1_init (t0 : Nat) (p1 : Option Nat) (p2 : Option Nat) (u : Mem) : Option (Mem) :=
  bnd2 (nwc u 20 400) fun a1 u2 =>
  (pfR u2 (some t0) 1 0 (some a1)).bind fun u3 =>
  bnd2 (nwc u3 20 400) fun a4 u5 =>
  (pfR u5 (some t0) 1 1 (some a4)).bind fun u6 =>
  bnd2 (nwc u6 20 20) fun a7 u8 =>
  (pfR u8 (some t0) 1 4 (some a7)).bind fun u9 =>
  bnd2 (nwc u9 20 20) fun a10 u11 =>
  (pfR u11 (some t0) 1 5 (some a10)).bind fun u12 =>
  (pfI u12 (some t0) 1 6 (-1 : Int32)).bind fun u13 =>
  (pfR u13 (some t0) 1 2 p1).bind fun u14 =>
  (pfR u14 (some t0) 1 3 p2).bind fun u15 =>
  some u15
abbrev iX5_isSettled : MI := (yX5_isSettled, cX5_isSettled, 1, (some .boolean))
def fX5_isSettled (t0 : Nat) (u : Mem) : Option (Int32) :=
  (gfI u (some t0) 5 2).bind fun v1 =>
  if v1 = 0 then
    some (1 : Int32)
  else
    (gfI u (some t0) 5 2).bind fun v3 =>
    if v3 = (1 : Int32) then
      some (1 : Int32)
    else
      some (0 : Int32)
abbrev iX5_endOfRows : MI := (yX5_endOfRows, cX5_endOfRows, 1, (some .int))
def fX5_endOfRows (t0 : Nat) (u : Mem) : Option (Int32) :=
  (chk u (some t0) 5).bind fun b1 =>
  (fX5_isSettled t0 u).bind fun v2 =>
  if v2 = 0 then
    (gfI u (some t0) 5 0).bind fun v4 =>
    some v4
  else
    (gfI u (some t0) 5 1).bind fun v5 =>
    (gfI u (some t0) 5 3).bind fun v6 =>
    some (mnI (v5 + (1 : Int32)) v6)
abbrev iX7_cost : MI := (yX7_cost, cX7_cost, 3, (some .int))
def fX7_cost (t0 : Nat) (p1 : Int32) (p2 : Int32) (u : Mem) : Option (Int32) :=
  if p1 = (1 : Int32) then
    (gfR u (some t0) 7 0).bind fun v2 =>
    (alI u v2 20 p2).bind fun v3 =>
    some v3
  else
    (gfR u (some t0) 7 1).bind fun v4 =>
    (alI u v4 20 p2).bind fun v5 =>
    some v5
abbrev iX1_addRows : MI := (yX1_addRows, cX1_addRows, 4, (Option.none : Option FieldType))
def fX1_addRows (t0 : Nat) (p1 : Int32) (p2 : Int32) (p3 : Int32) (u : Mem) : Option (Mem) :=
  (gfR u (some t0) 1 0).bind fun v1 =>
  (alI u v1 20 p1).bind fun v2 =>
  (asI u v1 20 p1 ((v2 + p2))).bind fun u3 =>
  (gfR u3 (some t0) 1 1).bind fun v4 =>
  (alI u3 v4 20 p1).bind fun v5 =>
  (asI u3 v4 20 p1 ((v5 + (p2 * p3)))).bind fun u6 =>
  some u6
abbrev iX7_countsMissingAsHalf : MI := (yX7_countsMissingAsHalf, cX7_countsMissingAsHalf, 1, (some .boolean))
def fX7_countsMissingAsHalf (t0 : Nat) (u : Mem) : Option (Int32) :=
  (gfI u (some t0) 7 2).bind fun v1 =>
  if v1 = (1 : Int32) then
    some (1 : Int32)
  else
    some (0 : Int32)
abbrev iX1_fillRows : MI := (yX1_fillRows, cX1_fillRows, 5, (Option.none : Option FieldType))
def bX1_fillRows_42 (t0 : Nat) (i1 : Int32) (t2 : Nat) (s3 : Option Nat) (s4 : Int32) (u : Mem) : Option ((Option Nat × Int32 × Mem) ⊕ (Int32 × Mem)) :=
  if s3 = none then
    some (.inr (s4, u))
  else
    (gfI u s3 3 2).bind fun v15 =>
    if v15 < s4 then
      (gfI u s3 3 2).bind fun v17 =>
      (gfR u (some t0) 1 3).bind fun v18 =>
      (gfI u (some t2) 5 2).bind fun v19 =>
      (gfI u s3 3 3).bind fun v20 =>
      (chk u v18 7).bind fun b21 =>
      (fX7_cost b21 v19 v20 u).bind fun v22 =>
      (chk u (some t0) 1).bind fun b23 =>
      (fX1_addRows t0 i1 (s4 - v17) v22 u).bind fun u24 =>
      (gfI u24 s3 3 2).bind fun v25 =>
      (gfR u24 s3 3 4).bind fun v26 =>
      some (.inl (v26, v25, u24))
    else
      (gfR u s3 3 4).bind fun v27 =>
      some (.inl (v27, s4, u))
def fX1_fillRows (t0 : Nat) (p1 : Int32) (p2 : Option Nat) (u : Mem) : Option (Mem) :=
  (gfR u (some t0) 1 0).bind fun v1 =>
  (asI u v1 20 p1 (0 : Int32)).bind fun u2 =>
  (gfR u2 (some t0) 1 1).bind fun v3 =>
  (asI u2 v3 20 p1 (0 : Int32)).bind fun u4 =>
  (gfR u4 (some t0) 1 2).bind fun v5 =>
  (gfR u4 v5 0 1).bind fun v6 =>
  (alR u4 v6 25 p1).bind fun v7 =>
  if v7 = none then
    some u4
  else
    (chk u4 p2 5).bind fun b9 =>
    (fX5_isSettled b9 u4).bind fun v10 =>
    if v10 = 0 then
      some u4
    else
      (chk u4 (some b9) 5).bind fun b12 =>
      (fX5_endOfRows b9 u4).bind fun v13 =>
      (lp (fun s : Option Nat × Int32 × Mem => bX1_fillRows_42 t0 p1 b9 s.1 s.2.1 s.2.2) FU (v7, v13, u4)).bind fun r28 =>
      (gfR r28.2 (some t0) 1 3).bind fun v29 =>
      (chk r28.2 v29 7).bind fun b30 =>
      (fX7_countsMissingAsHalf b30 r28.2).bind fun v31 =>
      if v31 = 0 then
        some r28.2
      else
        (gfI r28.2 (some b9) 5 0).bind fun v33 =>
        (gfR r28.2 (some t0) 1 3).bind fun v34 =>
        (gfI r28.2 (some b9) 5 2).bind fun v35 =>
        (chk r28.2 v34 7).bind fun b36 =>
        (fX7_cost b36 v35 (5 : Int32) r28.2).bind fun v37 =>
        (chk r28.2 (some t0) 1).bind fun b38 =>
        (fX1_addRows t0 p1 (r28.1 - v33) v37 r28.2).bind fun u39 =>
        some u39
abbrev iX1_doesCount : MI := (yX1_doesCount, cX1_doesCount, 2, (some .boolean))
def fX1_doesCount (t0 : Nat) (p1 : Int32) (u : Mem) : Option (Int32) :=
  (gfR u (some t0) 1 0).bind fun v1 =>
  (alI u v1 20 p1).bind fun v2 =>
  (gfR u (some t0) 1 3).bind fun v3 =>
  (gfI u v3 7 6).bind fun v4 =>
  if v2 < v4 then
    some (0 : Int32)
  else
    some (1 : Int32)
abbrev iX1_addToTotal : MI := (yX1_addToTotal, cX1_addToTotal, 3, (Option.none : Option FieldType))
def fX1_addToTotal (t0 : Nat) (p1 : Int32) (p2 : Int32) (u : Mem) : Option (Mem) :=
  (chk u (some t0) 1).bind fun b1 =>
  (fX1_doesCount t0 p2 u).bind fun v2 =>
  if v2 = 0 then
    some u
  else
    (gfR u (some t0) 1 4).bind fun v4 =>
    (alI u v4 20 p1).bind fun v5 =>
    (gfR u (some t0) 1 0).bind fun v6 =>
    (alI u v6 20 p2).bind fun v7 =>
    (asI u v4 20 p1 ((v5 + v7))).bind fun u8 =>
    (gfR u8 (some t0) 1 5).bind fun v9 =>
    (alI u8 v9 20 p1).bind fun v10 =>
    (gfR u8 (some t0) 1 1).bind fun v11 =>
    (alI u8 v11 20 p2).bind fun v12 =>
    (asI u8 v9 20 p1 ((v10 + v12))).bind fun u13 =>
    some u13
abbrev iX1_refresh : MI := (yX1_refresh, cX1_refresh, 3, (Option.none : Option FieldType))
def bX1_refresh_50 (t0 : Nat) (i1 : Int32) (s2 : Int32) (u : Mem) : Option ((Int32 × Mem) ⊕ (Mem)) :=
  (gfR u (some t0) 1 2).bind fun v13 =>
  (gfI u v13 0 3).bind fun v14 =>
  if s2 < v14 then
    (fX10_cell i1 s2 u).bind fun v16 =>
    (gfR u (some t0) 1 2).bind fun v17 =>
    (gfR u v17 0 0).bind fun v18 =>
    (alR u v18 24 s2).bind fun v19 =>
    (chk u (some t0) 1).bind fun b20 =>
    (fX1_fillRows t0 v16 v19 u).bind fun u21 =>
    (fX10_cell i1 s2 u21).bind fun v22 =>
    (chk u21 (some t0) 1).bind fun b23 =>
    (fX1_addToTotal t0 i1 v22 u21).bind fun u24 =>
    nm (s2 + 1 : Int32) fun x25 =>
    some (.inl (x25, u24))
  else
    some (.inr u)
def bX1_refresh_28 (t0 : Nat) (s1 : Int32) (u : Mem) : Option ((Int32 × Mem) ⊕ (Mem)) :=
  if s1 < (20 : Int32) then
    (gfR u (some t0) 1 4).bind fun v9 =>
    (asI u v9 20 s1 (0 : Int32)).bind fun u10 =>
    (gfR u10 (some t0) 1 5).bind fun v11 =>
    (asI u10 v11 20 s1 (0 : Int32)).bind fun u12 =>
    (lp (fun s : Int32 × Mem => bX1_refresh_50 t0 s1 s.1 s.2) FU ((0 : Int32), u12)).bind fun r26 =>
    nm (s1 + 1 : Int32) fun x27 =>
    some (.inl (x27, r26))
  else
    some (.inr u)
def fX1_refresh (t0 : Nat) (u : Mem) : Option (Mem) :=
  (gfI u (some t0) 1 6).bind fun v1 =>
  (gfR u (some t0) 1 2).bind fun v2 =>
  (gfI u v2 0 5).bind fun v3 =>
  if v1 = v3 then
    some u
  else
    (gfR u (some t0) 1 2).bind fun v5 =>
    (gfI u v5 0 5).bind fun v6 =>
    (pfI u (some t0) 1 6 v6).bind fun u7 =>
    (lp (fun s : Int32 × Mem => bX1_refresh_28 t0 s.1 s.2) FU ((0 : Int32), u7)).bind fun r28 =>
    some r28
abbrev iX1_costOnDay : MI := (yX1_costOnDay, cX1_costOnDay, 5, (some .int))
def jX1_costOnDay_31 (t0 : Nat) (p2 : Int32) (p4 : Int32) (u : Mem) : Option (Int32) :=
  if p4 = (-1 : Int32) then
    some (-1 : Int32)
  else
    (gfR u (some t0) 1 3).bind fun v10 =>
    (gfR u (some t0) 1 2).bind fun v11 =>
    (gfR u v11 0 0).bind fun v12 =>
    (alR u v12 24 p2).bind fun v13 =>
    (gfI u v13 5 2).bind fun v14 =>
    (chk u v10 7).bind fun b15 =>
    (fX7_cost b15 v14 p4 u).bind fun v16 =>
    some v16
def fX1_costOnDay (t0 : Nat) (p1 : Int32) (p2 : Int32) (p3 : Int32) (u : Mem) : Option (Int32) :=
  (gfR u (some t0) 1 2).bind fun v1 =>
  (chk u v1 0).bind fun b2 =>
  (fX0_heldTenth b2 p1 p2 p3 u).bind fun v3 =>
  if v3 = (-1 : Int32) then
    (gfR u (some t0) 1 3).bind fun v5 =>
    (chk u v5 7).bind fun b6 =>
    (fX7_countsMissingAsHalf b6 u).bind fun v7 =>
    if v7 = 0 then
      jX1_costOnDay_31 t0 p2 v3 u
    else
      jX1_costOnDay_31 t0 p2 (5 : Int32) u
  else
    jX1_costOnDay_31 t0 p2 v3 u
abbrev iX1_hasMean : MI := (yX1_hasMean, cX1_hasMean, 2, (some .boolean))
def fX1_hasMean (t0 : Nat) (p1 : Int32) (u : Mem) : Option (Int32) :=
  (gfR u (some t0) 1 4).bind fun v1 =>
  (alI u v1 20 p1).bind fun v2 =>
  if 0 < v2 then
    some (1 : Int32)
  else
    some (0 : Int32)
abbrev iX1_greatestDivisor : MI := (yX1_greatestDivisor, cX1_greatestDivisor, 6, (some .int))
def bX1_greatestDivisor_7 (u : Mem) (s2 : Int32) (s3 : Int32) (s4 : Int32) : Option ((Int32 × Int32 × Int32) ⊕ (Int32)) :=
  if s4 < (100 : Int32) then
    if 0 < s3 then
      (nz32 s3).bind fun z3 =>
      nm (s2 - s2 / s3 * s3 : Int32) fun x4 =>
      nm (s4 + 1 : Int32) fun x5 =>
      some (.inl (s3, x4, x5))
    else
      some (.inr s2)
  else
    some (.inr s2)
def jX1_greatestDivisor_34 (p2 : Int32) (u : Mem) : Option (Int32) :=
  some (mxI p2 (1 : Int32))
def fX1_greatestDivisor (p0 : Int32) (p1 : Int32) (u : Mem) : Option (Int32) :=
  (lp (fun s : Int32 × Int32 × Int32 => bX1_greatestDivisor_7 u s.1 s.2.1 s.2.2) FU (p0, p1, (0 : Int32))).bind fun r6 =>
  jX1_greatestDivisor_34 r6 u
abbrev iX1_meanAbove : MI := (yX1_meanAbove, cX1_meanAbove, 2, (some .int))
def fX1_meanAbove (t0 : Nat) (p1 : Int32) (u : Mem) : Option (Int32) :=
  (gfR u (some t0) 1 5).bind fun v1 =>
  (alI u v1 20 p1).bind fun v2 =>
  (gfR u (some t0) 1 5).bind fun v3 =>
  (alI u v3 20 p1).bind fun v4 =>
  (gfR u (some t0) 1 4).bind fun v5 =>
  (alI u v5 20 p1).bind fun v6 =>
  (fX1_greatestDivisor v4 v6 u).bind fun v7 =>
  (nz32 v7).bind fun z8 =>
  some (v2 / v7)
abbrev iX1_meanBelow : MI := (yX1_meanBelow, cX1_meanBelow, 2, (some .int))
def fX1_meanBelow (t0 : Nat) (p1 : Int32) (u : Mem) : Option (Int32) :=
  (gfR u (some t0) 1 4).bind fun v1 =>
  (alI u v1 20 p1).bind fun v2 =>
  (gfR u (some t0) 1 5).bind fun v3 =>
  (alI u v3 20 p1).bind fun v4 =>
  (gfR u (some t0) 1 4).bind fun v5 =>
  (alI u v5 20 p1).bind fun v6 =>
  (fX1_greatestDivisor v4 v6 u).bind fun v7 =>
  (nz32 v7).bind fun z8 =>
  some (v2 / v7)
abbrev iX1_guessersWithMean : MI := (yX1_guessersWithMean, cX1_guessersWithMean, 3, (some .int))
def bX1_guessersWithMean_4 (t0 : Nat) (u : Mem) (s1 : Int32) (s2 : Int32) : Option ((Int32 × Int32) ⊕ (Int32)) :=
  if s2 < (20 : Int32) then
    (chk u (some t0) 1).bind fun b2 =>
    (fX1_hasMean t0 s2 u).bind fun v3 =>
    if v3 = 0 then
      nm (s2 + 1 : Int32) fun x5 =>
      some (.inl (s1, x5))
    else
      nm (s1 + 1 : Int32) fun x6 =>
      nm (s2 + 1 : Int32) fun x7 =>
      some (.inl (x6, x7))
  else
    some (.inr s1)
def fX1_guessersWithMean (t0 : Nat) (u : Mem) : Option (Int32) :=
  (lp (fun s : Int32 × Int32 => bX1_guessersWithMean_4 t0 u s.1 s.2) FU ((0 : Int32), (0 : Int32))).bind fun r8 =>
  some r8
abbrev iX1_isAhead : MI := (yX1_isAhead, cX1_isAhead, 7, (some .boolean))
def fX1_isAhead (t0 : Nat) (p1 : Int32) (p2 : Int32) (u : Mem) : Option (Int32) :=
  (gfR u (some t0) 1 5).bind fun v1 =>
  (alI u v1 20 p1).bind fun v2 =>
  (gfR u (some t0) 1 4).bind fun v3 =>
  (alI u v3 20 p2).bind fun v4 =>
  nm ((Int32.toInt64 v2) * (Int32.toInt64 v4) : Int64) fun x5 =>
  (gfR u (some t0) 1 5).bind fun v6 =>
  (alI u v6 20 p2).bind fun v7 =>
  (gfR u (some t0) 1 4).bind fun v8 =>
  (alI u v8 20 p1).bind fun v9 =>
  nm ((Int32.toInt64 v7) * (Int32.toInt64 v9) : Int64) fun x10 =>
  if (lg_cmp x5 x10) < 0 then
    some (1 : Int32)
  else
    if (lg_cmp x5 x10) = 0 then
      if p1 < p2 then
        some (1 : Int32)
      else
        some (0 : Int32)
    else
      some (0 : Int32)
abbrev iX1_rankOf : MI := (yX1_rankOf, cX1_rankOf, 4, (some .int))
def bX1_rankOf_4 (t0 : Nat) (i1 : Int32) (u : Mem) (s2 : Int32) (s3 : Int32) : Option ((Int32 × Int32) ⊕ (Int32)) :=
  if s3 < (20 : Int32) then
    (chk u (some t0) 1).bind fun b2 =>
    (fX1_hasMean t0 s3 u).bind fun v3 =>
    if v3 = 0 then
      nm (s3 + 1 : Int32) fun x5 =>
      some (.inl (s2, x5))
    else
      (chk u (some t0) 1).bind fun b6 =>
      (fX1_isAhead t0 s3 i1 u).bind fun v7 =>
      if v7 = 0 then
        nm (s3 + 1 : Int32) fun x9 =>
        some (.inl (s2, x9))
      else
        nm (s2 + 1 : Int32) fun x10 =>
        nm (s3 + 1 : Int32) fun x11 =>
        some (.inl (x10, x11))
  else
    some (.inr s2)
def fX1_rankOf (t0 : Nat) (p1 : Int32) (u : Mem) : Option (Int32) :=
  (lp (fun s : Int32 × Int32 => bX1_rankOf_4 t0 p1 u s.1 s.2) FU ((0 : Int32), (0 : Int32))).bind fun r12 =>
  some r12
abbrev iX1_guesserAtRank : MI := (yX1_guesserAtRank, cX1_guesserAtRank, 3, (some .int))
def bX1_guesserAtRank_2 (t0 : Nat) (i1 : Int32) (u : Mem) (s2 : Int32) : Option ((Int32) ⊕ ((Unit) ⊕ (Int32))) :=
  if s2 < (20 : Int32) then
    (chk u (some t0) 1).bind fun b2 =>
    (fX1_hasMean t0 s2 u).bind fun v3 =>
    if v3 = 0 then
      nm (s2 + 1 : Int32) fun x5 =>
      some (.inl x5)
    else
      (chk u (some t0) 1).bind fun b6 =>
      (fX1_rankOf t0 s2 u).bind fun v7 =>
      if v7 = i1 then
        some (.inr (.inr s2))
      else
        nm (s2 + 1 : Int32) fun x9 =>
        some (.inl x9)
  else
    some (.inr (.inl ()))
def fX1_guesserAtRank (t0 : Nat) (p1 : Int32) (u : Mem) : Option (Int32) :=
  (lp (fun s : Int32 => bX1_guesserAtRank_2 t0 p1 u s) FU (0 : Int32)).bind fun r10 =>
  sumE r10 (fun r11 =>
    some (-1 : Int32)) (fun r12 =>
    some r12)
abbrev iX1_expectedCost : MI := (yX1_expectedCost, cX1_expectedCost, 3, (some .int))
def fX1_expectedCost (t0 : Nat) (p1 : Int32) (p2 : Int32) (u : Mem) : Option (Int32) :=
  (gfR u (some t0) 1 3).bind fun v1 =>
  (gfR u v1 7 0).bind fun v2 =>
  (alI u v2 20 p2).bind fun v3 =>
  (gfR u (some t0) 1 3).bind fun v4 =>
  (gfR u v4 7 1).bind fun v5 =>
  (alI u v5 20 p2).bind fun v6 =>
  some ((p1 * v3) + (((10 : Int32) - p1) * v6))
abbrev iX1_bestTenthToSay : MI := (yX1_bestTenthToSay, cX1_bestTenthToSay, 4, (some .int))
def bX1_bestTenthToSay_4 (t0 : Nat) (i1 : Int32) (u : Mem) (s2 : Int32) (s3 : Int32) : Option ((Int32 × Int32) ⊕ (Int32)) :=
  if s3 < (11 : Int32) then
    (chk u (some t0) 1).bind fun b2 =>
    (fX1_expectedCost t0 i1 s3 u).bind fun v3 =>
    (chk u (some t0) 1).bind fun b4 =>
    (fX1_expectedCost t0 i1 s2 u).bind fun v5 =>
    if v3 < v5 then
      nm (s3 + 1 : Int32) fun x7 =>
      some (.inl (s3, x7))
    else
      nm (s3 + 1 : Int32) fun x8 =>
      some (.inl (s2, x8))
  else
    some (.inr s2)
def fX1_bestTenthToSay (t0 : Nat) (p1 : Int32) (u : Mem) : Option (Int32) :=
  (lp (fun s : Int32 × Int32 => bX1_bestTenthToSay_4 t0 p1 u s.1 s.2) FU ((0 : Int32), (1 : Int32))).bind fun r9 =>
  some r9
abbrev iX1_paysAlone : MI := (yX1_paysAlone, cX1_paysAlone, 4, (some .boolean))
def bX1_paysAlone_9 (t0 : Nat) (i1 : Int32) (i2 : Int32) (u : Mem) (s3 : Int32) : Option ((Int32) ⊕ ((Unit) ⊕ (Unit))) :=
  if s3 < (11 : Int32) then
    if s3 = i1 then
      nm (s3 + 1 : Int32) fun x5 =>
      some (.inl x5)
    else
      (chk u (some t0) 1).bind fun b6 =>
      (fX1_expectedCost t0 i1 s3 u).bind fun v7 =>
      if i2 < v7 then
        nm (s3 + 1 : Int32) fun x9 =>
        some (.inl x9)
      else
        some (.inr (.inr ()))
  else
    some (.inr (.inl ()))
def fX1_paysAlone (t0 : Nat) (p1 : Int32) (u : Mem) : Option (Int32) :=
  (chk u (some t0) 1).bind fun b1 =>
  (fX1_expectedCost t0 p1 p1 u).bind fun v2 =>
  (lp (fun s : Int32 => bX1_paysAlone_9 t0 p1 v2 u s) FU (0 : Int32)).bind fun r10 =>
  sumE r10 (fun r11 =>
    some (1 : Int32)) (fun r12 =>
    some (0 : Int32))
abbrev iX1_leastDishonestBelief : MI := (yX1_leastDishonestBelief, cX1_leastDishonestBelief, 2, (some .int))
def bX1_leastDishonestBelief_2 (t0 : Nat) (u : Mem) (s1 : Int32) : Option ((Int32) ⊕ ((Unit) ⊕ (Int32))) :=
  if s1 < (11 : Int32) then
    (chk u (some t0) 1).bind fun b2 =>
    (fX1_paysAlone t0 s1 u).bind fun v3 =>
    if v3 = 0 then
      some (.inr (.inr s1))
    else
      nm (s1 + 1 : Int32) fun x5 =>
      some (.inl x5)
  else
    some (.inr (.inl ()))
def fX1_leastDishonestBelief (t0 : Nat) (u : Mem) : Option (Int32) :=
  (lp (fun s : Int32 => bX1_leastDishonestBelief_2 t0 u s) FU (0 : Int32)).bind fun r6 =>
  sumE r6 (fun r7 =>
    some (-1 : Int32)) (fun r8 =>
    some r8)
abbrev iX2_init : MI := (yX2_init, cX2_init, 4, (Option.none : Option FieldType))
def fX2_init (t0 : Nat) (p1 : Option Nat) (p2 : Option Nat) (p3 : Option Nat) (u : Mem) : Option (Mem) :=
  bnd2 (nwc u 20 400) fun a1 u2 =>
  (pfR u2 (some t0) 2 5 (some a1)).bind fun u3 =>
  bnd2 (nwc u3 20 400) fun a4 u5 =>
  (pfR u5 (some t0) 2 6 (some a4)).bind fun u6 =>
  bnd2 (nwc u6 20 1200) fun a7 u8 =>
  (pfR u8 (some t0) 2 7 (some a7)).bind fun u9 =>
  bnd2 (nwc u9 20 20) fun a10 u11 =>
  (pfR u11 (some t0) 2 8 (some a10)).bind fun u12 =>
  bnd2 (nwc u12 20 11) fun a13 u14 =>
  (pfR u14 (some t0) 2 9 (some a13)).bind fun u15 =>
  (pfI u15 (some t0) 2 10 (-1 : Int32)).bind fun u16 =>
  (pfR u16 (some t0) 2 2 p1).bind fun u17 =>
  (pfR u17 (some t0) 2 3 p2).bind fun u18 =>
  (pfR u18 (some t0) 2 4 p3).bind fun u19 =>
  some u19
abbrev iX7_tellsCopy : MI := (yX7_tellsCopy, cX7_tellsCopy, 1, (some .boolean))
def fX7_tellsCopy (t0 : Nat) (u : Mem) : Option (Int32) :=
  (gfI u (some t0) 7 4).bind fun v1 =>
  if v1 = (-1 : Int32) then
    some (0 : Int32)
  else
    some (1 : Int32)
abbrev iX2_isCopy : MI := (yX2_isCopy, cX2_isCopy, 4, (some .boolean))
def fX2_isCopy (t0 : Nat) (p1 : Option Nat) (p2 : Int32) (u : Mem) : Option (Int32) :=
  (gfR u (some t0) 2 2).bind fun v1 =>
  (gfI u p1 3 1).bind fun v2 =>
  (fX10_cell p2 v2 u).bind fun v3 =>
  (gfI u p1 3 2).bind fun v4 =>
  (chk u v1 0).bind fun b5 =>
  (fX0_latestUpTo b5 v3 (v4 - (1 : Int32)) u).bind fun v6 =>
  if v6 = none then
    some (0 : Int32)
  else
    (gfI u v6 3 3).bind fun v8 =>
    (gfI u p1 3 3).bind fun v9 =>
    if v8 = v9 then
      (gfI u p1 3 2).bind fun v11 =>
      (gfI u v6 3 2).bind fun v12 =>
      (gfR u (some t0) 2 3).bind fun v13 =>
      (gfI u v13 7 4).bind fun v14 =>
      if v14 < (v11 - v12) then
        some (0 : Int32)
      else
        some (1 : Int32)
    else
      some (0 : Int32)
abbrev iX10_pair : MI := (yX10_pair, cX10_pair, 2, (some .int))
def fX10_pair (p0 : Int32) (p1 : Int32) (u : Mem) : Option (Int32) :=
  some ((p0 * (20 : Int32)) + p1)
abbrev iX2_noteCopy : MI := (yX2_noteCopy, cX2_noteCopy, 4, (Option.none : Option FieldType))
def fX2_noteCopy (t0 : Nat) (p1 : Option Nat) (p2 : Int32) (u : Mem) : Option (Mem) :=
  if p1 = none then
    some u
  else
    (gfI u p1 3 0).bind fun v2 =>
    if v2 = p2 then
      some u
    else
      (chk u (some t0) 2).bind fun b4 =>
      (fX2_isCopy t0 p1 p2 u).bind fun v5 =>
      if v5 = 0 then
        some u
      else
        (gfI u p1 3 0).bind fun v7 =>
        (fX10_pair v7 p2 u).bind fun v8 =>
        (gfR u (some t0) 2 6).bind fun v9 =>
        (alI u v9 20 v8).bind fun v10 =>
        (asI u v9 20 v8 ((v10 + (1 : Int32)))).bind fun u11 =>
        (gfR u11 (some t0) 2 6).bind fun v12 =>
        (alI u11 v12 20 v8).bind fun v13 =>
        (gfR u11 (some t0) 2 3).bind fun v14 =>
        (gfI u11 v14 7 5).bind fun v15 =>
        if v13 = v15 then
          (gfR u11 (some t0) 2 5).bind fun v17 =>
          (gfI u11 p1 3 2).bind fun v18 =>
          (asI u11 v17 20 v8 v18).bind fun u19 =>
          some u19
        else
          some u11
theorem tX5_init {l : Launch} {G : Gt} {d : Nat} {t0 : Nat} {u : Mem} {y : Mem} (h : fX5_init t0 u = some y) : Rn l G iX5_init (d + 1) 0 [(0, rv (some t0))] [] u (.returned none) y := by
  unfold fX5_init at h
  refine rn_aload_n (pc := 0) 0 dX5_init_0 rfl rfl ?_
  refine rn_objInit (pc := 1) (by omega) tw_226 tw_97 tw_98 (by decide) dX5_init_1 ?_
  refine rn_aload_n (pc := 4) 0 dX5_init_4 rfl rfl ?_
  refine rn_iconst (pc := 5) (v := 3) dX5_init_5 (by decide) ?_
  obtain ⟨u1, hu1, h1⟩ := bnd_some h
  refine rn_putI (pc := 6) (k := 2) okX5 (by decide) tw_235 (Or.inl rfl) (Or.inl rfl) dX5_init_6 hu1 ?_
  refine rn_aload_n (pc := 9) 0 dX5_init_9 rfl rfl ?_
  refine rn_iconst (pc := 10) (v := -1) dX5_init_10 (by decide) ?_
  obtain ⟨u2, hu2, h2⟩ := bnd_some h1
  refine rn_putI (pc := 11) (k := 3) okX5 (by decide) tw_239 (Or.inl rfl) (Or.inl rfl) dX5_init_11 hu2 ?_
  cases h2
  exact rn_vret (pc := 14) rfl dX5_init_14
theorem eX5_init {l : Launch} {G : Gt} {d : Nat} {t0 : Nat} {u : Mem} {y : Mem} (h : fX5_init t0 u = some y) : Ex l G iX5_init (d + 1) [rv (some t0)] u (.returned none) y := Ex.of (by decide +kernel) (by decide) (Nat.le_of_ble_eq_true rfl) rfl (tX5_init h)
theorem btX0_init_35 {l : Launch} {G : Gt} {d : Nat} {t0 : Nat} {s1 : Int32} {u : Mem} {y : (Int32 × Mem) ⊕ (Mem)} {o : Outcome} {u' : Mem} (h : bX0_init_35 t0 s1 u = some y) (k0 : ∀ s' : Int32 × Mem, y = .inl s' → Rn l G iX0_init (d + 2) 35 [(0, rv (some t0)), (1, .int s'.1)] [] s'.2 o u') (k1 : ∀ r : Mem, y = .inr (r) → Rn l G iX0_init (d + 2) 60 [] [] r o u') : Rn l G iX0_init (d + 2) 35 [(0, rv (some t0)), (1, .int s1)] [] u o u' := by
  unfold bX0_init_35 at h
  refine rn_iload_n (pc := 35) 1 dX0_init_35 rfl rfl ?_
  refine rn_bipush (pc := 36) (v := 20) dX0_init_36 (by decide) ?_
  rcases if_elim h with ⟨c10, h1⟩ | ⟨c10, h1⟩
  · refine rn_ige_f (pc := 38) 60 dX0_init_38 (by decide) c10 ?_
    refine rn_aload_n (pc := 41) 0 dX0_init_41 rfl rfl ?_
    obtain ⟨v11, hv11, h2⟩ := bnd_some h1
    refine rn_getR (pc := 42) (k := 0) okX0 (by decide) tw_255 rfl dX0_init_42 hv11 ?_
    refine rn_iload_n (pc := 45) 1 dX0_init_45 rfl rfl ?_
    obtain ⟨a12, u13, ha12, h3⟩ := bnd2_some h2
    refine rn_new (pc := 46) okX5 (by decide +kernel) tw_221 tw_223 tw_73 dX0_init_46 ha12 ?_
    refine rn_dup (pc := 49) dX0_init_49 (rv_cat _) ?_
    obtain ⟨u14, hu14, h4⟩ := bnd_some h3
    refine rn_callIN (pc := 50) (host := "ForeBook") (n := 0) (As := []) (rest := [rv (some a12), .int s1, rv v11]) (eX5_init (d := d + 0) hu14) (by omega) rfl tw_225 tw_73 (by decide +kernel) tw_224 rfl (by decide +kernel) rfl (cat_le8 (Nat.le_of_ble_eq_true rfl)) dX0_init_50 rfl ?_
    obtain ⟨u15, hu15, h5⟩ := bnd_some h4
    refine rn_aast24 (pc := 53) dX0_init_53 hu15 ?_
    obtain ⟨x16, ex16, h6⟩ := nm_elim h5
    refine rn_iinc (pc := 54) (v := x16) (lv' := [(1, .int x16), (0, rv (some t0))]) 1 dX0_init_54 rfl (by rw [ex16]; rfl) (by decide) rfl ?_
    refine rn_goto (pc := 57) (tgt := 35) dX0_init_57 (by decide) ?_
    cases h6
    exact rn_sub [1, 0] rfl (k0 _ rfl)
  · refine rn_ige_t (pc := 38) (tgt := 60) dX0_init_38 (by decide) c10 ?_
    cases h1
    exact rn_sub [] rfl (k1 _ rfl)
theorem lX0_init_35 {l : Launch} {G : Gt} {d : Nat} {t0 : Nat} {N : Nat} {s0 : Int32 × Mem} {r : Mem} {o : Outcome} {u' : Mem} (h : lp (fun s : Int32 × Mem => bX0_init_35 t0 s.1 s.2) N s0 = some r) (k1 : Rn l G iX0_init (d + 2) 60 [] [] r o u') : Rn l G iX0_init (d + 2) 35 [(0, rv (some t0)), (1, .int s0.1)] [] s0.2 o u' :=
  lp_run (P := fun s : Int32 × Mem => Rn l G iX0_init (d + 2) 35 [(0, rv (some t0)), (1, .int s.1)] [] s.2 o u') (E := fun r => Rn l G iX0_init (d + 2) 60 [] [] r o u') (fun s y hy k0 kE => btX0_init_35 hy (fun s' e => k0 s' e) (fun r e => kE r e)) N s0 r h k1
theorem tX0_init {l : Launch} {G : Gt} {d : Nat} {t0 : Nat} {u : Mem} {y : Mem} (h : fX0_init t0 u = some y) : Rn l G iX0_init (d + 2) 0 [(0, rv (some t0))] [] u (.returned none) y := by
  unfold fX0_init at h
  refine rn_aload_n (pc := 0) 0 dX0_init_0 rfl rfl ?_
  refine rn_objInit (pc := 1) (by omega) tw_220 tw_97 tw_98 (by decide) dX0_init_1 ?_
  refine rn_aload_n (pc := 4) 0 dX0_init_4 rfl rfl ?_
  refine rn_bipush (pc := 5) (v := 20) dX0_init_5 (by decide) ?_
  obtain ⟨a1, u2, ha1, h1⟩ := bnd2_some h
  refine rn_newq (pc := 7) (N := 20) (by first | exact Or.inl ⟨rfl, rfl⟩ | exact Or.inr ⟨rfl, rfl⟩) tw_221 (by decide) (by decide) (by decide) dX0_init_7 ha1 ?_
  obtain ⟨u3, hu3, h2⟩ := bnd_some h1
  refine rn_putR (pc := 10) (k := 0) okX0 (by decide) tw_255 (Or.inr ⟨rfl, rfl, rfl⟩) rfl dX0_init_10 hu3 ?_
  refine rn_aload_n (pc := 13) 0 dX0_init_13 rfl rfl ?_
  refine rn_sipush (pc := 14) (v := 400) dX0_init_14 (by decide) ?_
  obtain ⟨a4, u5, ha4, h3⟩ := bnd2_some h2
  refine rn_newq (pc := 17) (N := 400) (by first | exact Or.inl ⟨rfl, rfl⟩ | exact Or.inr ⟨rfl, rfl⟩) tw_222 (by decide) (by decide) (by decide) dX0_init_17 ha4 ?_
  obtain ⟨u6, hu6, h4⟩ := bnd_some h3
  refine rn_putR (pc := 20) (k := 1) okX0 (by decide) tw_259 (Or.inr ⟨rfl, rfl, rfl⟩) rfl dX0_init_20 hu6 ?_
  refine rn_aload_n (pc := 23) 0 dX0_init_23 rfl rfl ?_
  refine rn_sipush (pc := 24) (v := 300) dX0_init_24 (by decide) ?_
  obtain ⟨a7, u8, ha7, h5⟩ := bnd2_some h4
  refine rn_newq (pc := 27) (N := 300) (by first | exact Or.inl ⟨rfl, rfl⟩ | exact Or.inr ⟨rfl, rfl⟩) tw_222 (by decide) (by decide) (by decide) dX0_init_27 ha7 ?_
  obtain ⟨u9, hu9, h6⟩ := bnd_some h5
  refine rn_putR (pc := 30) (k := 2) okX0 (by decide) tw_261 (Or.inr ⟨rfl, rfl, rfl⟩) rfl dX0_init_30 hu9 ?_
  refine rn_iconst (pc := 33) (v := 0) dX0_init_33 (by decide) ?_
  refine rn_istore_n (pc := 34) (lv' := [(1, .int (0 : Int32)), (0, rv (some t0))]) dX0_init_34 rfl (by decide) rfl ?_
  obtain ⟨r17, hr17, h7⟩ := bnd_some h6
  refine rn_sub [1, 0] rfl (lX0_init_35 hr17 ?_)
  cases h7
  exact rn_vret (pc := 60) rfl dX0_init_60
theorem eX0_init {l : Launch} {G : Gt} {d : Nat} {t0 : Nat} {u : Mem} {y : Mem} (h : fX0_init t0 u = some y) : Ex l G iX0_init (d + 2) [rv (some t0)] u (.returned none) y := Ex.of (by decide +kernel) (by decide) (Nat.le_of_ble_eq_true rfl) rfl (tX0_init h)
theorem tX0_hasQuestion {l : Launch} {G : Gt} {d : Nat} {t0 : Nat} {p1 : Int32} {u : Mem} {y : Int32} (h : fX0_hasQuestion t0 p1 u = some y) : Rn l G iX0_hasQuestion d 0 [(0, rv (some t0)), (1, .int p1)] [] u (.returned (some (.int y))) u := by
  unfold fX0_hasQuestion at h
  refine rn_iload_n (pc := 0) 1 dX0_hasQuestion_0 rfl rfl ?_
  rcases if_elim h with ⟨c1, h1⟩ | ⟨c1, h1⟩
  · refine rn_zlt_t (pc := 1) (tgt := 16) dX0_hasQuestion_1 (by decide) c1 ?_
    refine rn_iconst (pc := 16) (v := 0) dX0_hasQuestion_16 (by decide) ?_
    cases h1
    exact rn_zret (pc := 17) (by decide) rfl dX0_hasQuestion_17
  · refine rn_zlt_f (pc := 1) 16 dX0_hasQuestion_1 (by decide) c1 ?_
    refine rn_iload_n (pc := 4) 1 dX0_hasQuestion_4 rfl rfl ?_
    refine rn_aload_n (pc := 5) 0 dX0_hasQuestion_5 rfl rfl ?_
    obtain ⟨v2, hv2, h2⟩ := bnd_some h1
    refine rn_getI (pc := 6) (k := 3) okX0 (by decide) tw_263 rfl dX0_hasQuestion_6 hv2 ?_
    rcases if_elim h2 with ⟨c3, h3⟩ | ⟨c3, h3⟩
    · refine rn_ige_f (pc := 9) 16 dX0_hasQuestion_9 (by decide) c3 ?_
      refine rn_iconst (pc := 12) (v := 1) dX0_hasQuestion_12 (by decide) ?_
      refine rn_goto (pc := 13) (tgt := 17) dX0_hasQuestion_13 (by decide) ?_
      cases h3
      exact rn_zret (pc := 17) (by decide) rfl dX0_hasQuestion_17
    · refine rn_ige_t (pc := 9) (tgt := 16) dX0_hasQuestion_9 (by decide) c3 ?_
      refine rn_iconst (pc := 16) (v := 0) dX0_hasQuestion_16 (by decide) ?_
      cases h3
      exact rn_zret (pc := 17) (by decide) rfl dX0_hasQuestion_17
theorem eX0_hasQuestion {l : Launch} {G : Gt} {d : Nat} {t0 : Nat} {p1 : Int32} {u : Mem} {y : Int32} (h : fX0_hasQuestion t0 p1 u = some y) : Ex l G iX0_hasQuestion d [rv (some t0), .int p1] u (.returned (some (.int y))) u := Ex.of (by decide +kernel) (by decide) (Nat.le_of_ble_eq_true rfl) rfl (tX0_hasQuestion h)
theorem tX0_addQuestion {l : Launch} {G : Gt} {d : Nat} {t0 : Nat} {p1 : Int32} {p2 : Int32} {u : Mem} {y : Int32 × Mem} (h : fX0_addQuestion t0 p1 p2 u = some y) : Rn l G iX0_addQuestion d 0 [(0, rv (some t0)), (1, .int p1), (2, .int p2)] [] u (.returned (some (.int y.1))) y.2 := by
  unfold fX0_addQuestion at h
  refine rn_aload_n (pc := 0) 0 dX0_addQuestion_0 rfl rfl ?_
  obtain ⟨v1, hv1, h1⟩ := bnd_some h
  refine rn_getI (pc := 1) (k := 3) okX0 (by decide) tw_263 rfl dX0_addQuestion_1 hv1 ?_
  refine rn_istore_n (pc := 4) (lv' := [(3, .int v1), (0, rv (some t0)), (1, .int p1), (2, .int p2)]) dX0_addQuestion_4 rfl (by decide) rfl ?_
  refine rn_aload_n (pc := 5) 1 dX0_addQuestion_5 rfl rfl ?_
  obtain ⟨v2, hv2, h2⟩ := bnd_some h1
  refine rn_getR (pc := 6) (k := 0) okX0 (by decide) tw_255 rfl dX0_addQuestion_6 hv2 ?_
  refine rn_iload_n (pc := 9) 0 dX0_addQuestion_9 rfl rfl ?_
  obtain ⟨v3, hv3, h3⟩ := bnd_some h2
  refine rn_aald24 (pc := 10) dX0_addQuestion_10 hv3 ?_
  refine rn_iload_n (pc := 11) 2 dX0_addQuestion_11 rfl rfl ?_
  obtain ⟨u4, hu4, h4⟩ := bnd_some h3
  refine rn_putI (pc := 12) (k := 0) okX5 (by decide) tw_227 (Or.inl rfl) (Or.inl rfl) dX0_addQuestion_12 hu4 ?_
  refine rn_aload_n (pc := 15) 1 dX0_addQuestion_15 rfl rfl ?_
  obtain ⟨v5, hv5, h5⟩ := bnd_some h4
  refine rn_getR (pc := 16) (k := 0) okX0 (by decide) tw_255 rfl dX0_addQuestion_16 hv5 ?_
  refine rn_iload_n (pc := 19) 0 dX0_addQuestion_19 rfl rfl ?_
  obtain ⟨v6, hv6, h6⟩ := bnd_some h5
  refine rn_aald24 (pc := 20) dX0_addQuestion_20 hv6 ?_
  refine rn_iload_n (pc := 21) 3 dX0_addQuestion_21 rfl rfl ?_
  obtain ⟨u7, hu7, h7⟩ := bnd_some h6
  refine rn_putI (pc := 22) (k := 1) okX5 (by decide) tw_233 (Or.inl rfl) (Or.inl rfl) dX0_addQuestion_22 hu7 ?_
  refine rn_aload_n (pc := 25) 1 dX0_addQuestion_25 rfl rfl ?_
  refine rn_dup (pc := 26) dX0_addQuestion_26 (rv_cat _) ?_
  obtain ⟨v8, hv8, h8⟩ := bnd_some h7
  refine rn_getI (pc := 27) (k := 3) okX0 (by decide) tw_263 rfl dX0_addQuestion_27 hv8 ?_
  refine rn_iconst (pc := 30) (v := 1) dX0_addQuestion_30 (by decide) ?_
  refine rn_iadd (pc := 31) dX0_addQuestion_31 ?_
  obtain ⟨u9, hu9, h9⟩ := bnd_some h8
  refine rn_putI (pc := 32) (k := 3) okX0 (by decide) tw_263 (Or.inl rfl) (Or.inl rfl) dX0_addQuestion_32 hu9 ?_
  refine rn_aload_n (pc := 35) 1 dX0_addQuestion_35 rfl rfl ?_
  refine rn_dup (pc := 36) dX0_addQuestion_36 (rv_cat _) ?_
  obtain ⟨v10, hv10, h10⟩ := bnd_some h9
  refine rn_getI (pc := 37) (k := 5) okX0 (by decide) tw_273 rfl dX0_addQuestion_37 hv10 ?_
  refine rn_iconst (pc := 40) (v := 1) dX0_addQuestion_40 (by decide) ?_
  refine rn_iadd (pc := 41) dX0_addQuestion_41 ?_
  obtain ⟨u11, hu11, h11⟩ := bnd_some h10
  refine rn_putI (pc := 42) (k := 5) okX0 (by decide) tw_273 (Or.inl rfl) (Or.inl rfl) dX0_addQuestion_42 hu11 ?_
  refine rn_iload_n (pc := 45) 0 dX0_addQuestion_45 rfl rfl ?_
  cases h11
  exact rn_iret (pc := 46) rfl dX0_addQuestion_46
theorem eX0_addQuestion {l : Launch} {G : Gt} {d : Nat} {t0 : Nat} {p1 : Int32} {p2 : Int32} {u : Mem} {y : Int32 × Mem} (h : fX0_addQuestion t0 p1 p2 u = some y) : Ex l G iX0_addQuestion d [rv (some t0), .int p1, .int p2] u (.returned (some (.int y.1))) y.2 := Ex.of (by decide +kernel) (by decide) (Nat.le_of_ble_eq_true rfl) rfl (tX0_addQuestion h)
theorem tX10_cell {l : Launch} {G : Gt} {d : Nat} {p0 : Int32} {p1 : Int32} {u : Mem} {y : Int32} (h : fX10_cell p0 p1 u = some y) : Rn l G iX10_cell d 0 [(0, .int p0), (1, .int p1)] [] u (.returned (some (.int y))) u := by
  unfold fX10_cell at h
  refine rn_iload_n (pc := 0) 0 dX10_cell_0 rfl rfl ?_
  refine rn_bipush (pc := 1) (v := 20) dX10_cell_1 (by decide) ?_
  refine rn_imul (pc := 3) dX10_cell_3 ?_
  refine rn_iload_n (pc := 4) 1 dX10_cell_4 rfl rfl ?_
  refine rn_iadd (pc := 5) dX10_cell_5 ?_
  cases h
  exact rn_iret (pc := 6) rfl dX10_cell_6
theorem eX10_cell {l : Launch} {G : Gt} {d : Nat} {p0 : Int32} {p1 : Int32} {u : Mem} {y : Int32} (h : fX10_cell p0 p1 u = some y) : Ex l G iX10_cell d [.int p0, .int p1] u (.returned (some (.int y))) u := Ex.of (by decide +kernel) (by decide) (Nat.le_of_ble_eq_true rfl) rfl (tX10_cell h)
theorem tX3_init {l : Launch} {G : Gt} {d : Nat} {t0 : Nat} {p1 : Int32} {p2 : Int32} {p3 : Int32} {p4 : Int32} {p5 : Option Nat} {u : Mem} {y : Mem} (h : fX3_init t0 p1 p2 p3 p4 p5 u = some y) : Rn l G iX3_init (d + 1) 0 [(0, rv (some t0)), (1, .int p1), (2, .int p2), (3, .int p3), (4, .int p4), (5, rv p5)] [] u (.returned none) y := by
  unfold fX3_init at h
  refine rn_aload_n (pc := 0) 0 dX3_init_0 rfl rfl ?_
  refine rn_objInit (pc := 1) (by omega) tw_616 tw_97 tw_98 (by decide) dX3_init_1 ?_
  refine rn_aload_n (pc := 4) 0 dX3_init_4 rfl rfl ?_
  refine rn_iload_n (pc := 5) 1 dX3_init_5 rfl rfl ?_
  obtain ⟨u1, hu1, h1⟩ := bnd_some h
  refine rn_putI (pc := 6) (k := 0) okX3 (by decide) tw_617 (Or.inr ⟨rfl, rfl, rfl⟩) (Or.inl rfl) dX3_init_6 hu1 ?_
  refine rn_aload_n (pc := 9) 0 dX3_init_9 rfl rfl ?_
  refine rn_iload_n (pc := 10) 2 dX3_init_10 rfl rfl ?_
  obtain ⟨u2, hu2, h2⟩ := bnd_some h1
  refine rn_putI (pc := 11) (k := 1) okX3 (by decide) tw_619 (Or.inr ⟨rfl, rfl, rfl⟩) (Or.inl rfl) dX3_init_11 hu2 ?_
  refine rn_aload_n (pc := 14) 0 dX3_init_14 rfl rfl ?_
  refine rn_iload_n (pc := 15) 3 dX3_init_15 rfl rfl ?_
  obtain ⟨u3, hu3, h3⟩ := bnd_some h2
  refine rn_putI (pc := 16) (k := 2) okX3 (by decide) tw_621 (Or.inr ⟨rfl, rfl, rfl⟩) (Or.inl rfl) dX3_init_16 hu3 ?_
  refine rn_aload_n (pc := 19) 0 dX3_init_19 rfl rfl ?_
  refine rn_iload (pc := 20) 4 dX3_init_20 rfl ?_
  obtain ⟨u4, hu4, h4⟩ := bnd_some h3
  refine rn_putI (pc := 22) (k := 3) okX3 (by decide) tw_625 (Or.inr ⟨rfl, rfl, rfl⟩) (Or.inl rfl) dX3_init_22 hu4 ?_
  refine rn_aload_n (pc := 25) 0 dX3_init_25 rfl rfl ?_
  refine rn_aload (pc := 26) 5 dX3_init_26 rfl ?_
  obtain ⟨u5, hu5, h5⟩ := bnd_some h4
  refine rn_putR (pc := 28) (k := 4) okX3 (by decide) tw_629 (Or.inr ⟨rfl, rfl, rfl⟩) rfl dX3_init_28 hu5 ?_
  cases h5
  exact rn_vret (pc := 31) rfl dX3_init_31
theorem eX3_init {l : Launch} {G : Gt} {d : Nat} {t0 : Nat} {p1 : Int32} {p2 : Int32} {p3 : Int32} {p4 : Int32} {p5 : Option Nat} {u : Mem} {y : Mem} (h : fX3_init t0 p1 p2 p3 p4 p5 u = some y) : Ex l G iX3_init (d + 1) [rv (some t0), .int p1, .int p2, .int p3, .int p4, rv p5] u (.returned none) y := Ex.of (by decide +kernel) (by decide) (by cases p5 <;> exact Nat.le_of_ble_eq_true rfl) (by cases p5 <;> rfl) (tX3_init h)
theorem tX0_isBehind {l : Launch} {G : Gt} {d : Nat} {p0 : Option Nat} {p1 : Int32} {u : Mem} {y : Int32} (h : fX0_isBehind p0 p1 u = some y) : Rn l G iX0_isBehind d 0 [(0, rv p0), (1, .int p1)] [] u (.returned (some (.int y))) u := by
  unfold fX0_isBehind at h
  refine rn_aload_n (pc := 0) 0 dX0_isBehind_0 rfl rfl ?_
  rcases if_elim h with ⟨c1, h1⟩ | ⟨c1, h1⟩
  · refine rn_ifnull_t (pc := 1) (tgt := 16) dX0_isBehind_1 (by decide) c1 ?_
    refine rn_iconst (pc := 16) (v := 0) dX0_isBehind_16 (by decide) ?_
    cases h1
    exact rn_zret (pc := 17) (by decide) rfl dX0_isBehind_17
  · refine rn_ifnull_f (pc := 1) dX0_isBehind_1 c1 ?_
    refine rn_aload_n (pc := 4) 0 dX0_isBehind_4 rfl rfl ?_
    obtain ⟨v2, hv2, h2⟩ := bnd_some h1
    refine rn_getI (pc := 5) (k := 2) okX3 (by decide) tw_624 rfl dX0_isBehind_5 hv2 ?_
    refine rn_iload_n (pc := 8) 1 dX0_isBehind_8 rfl rfl ?_
    rcases if_elim h2 with ⟨c3, h3⟩ | ⟨c3, h3⟩
    · refine rn_ile_f (pc := 9) 16 dX0_isBehind_9 (by decide) c3 ?_
      refine rn_iconst (pc := 12) (v := 1) dX0_isBehind_12 (by decide) ?_
      refine rn_goto (pc := 13) (tgt := 17) dX0_isBehind_13 (by decide) ?_
      cases h3
      exact rn_zret (pc := 17) (by decide) rfl dX0_isBehind_17
    · refine rn_ile_t (pc := 9) (tgt := 16) dX0_isBehind_9 (by decide) c3 ?_
      refine rn_iconst (pc := 16) (v := 0) dX0_isBehind_16 (by decide) ?_
      cases h3
      exact rn_zret (pc := 17) (by decide) rfl dX0_isBehind_17
theorem eX0_isBehind {l : Launch} {G : Gt} {d : Nat} {p0 : Option Nat} {p1 : Int32} {u : Mem} {y : Int32} (h : fX0_isBehind p0 p1 u = some y) : Ex l G iX0_isBehind d [rv p0, .int p1] u (.returned (some (.int y))) u := Ex.of (by decide +kernel) (by decide) (by cases p0 <;> exact Nat.le_of_ble_eq_true rfl) (by cases p0 <;> rfl) (tX0_isBehind h)
theorem btX0_addGuess_46 {l : Launch} {G : Gt} {d : Nat} {t0 : Nat} {i2 : Int32} {i3 : Int32} {i5 : Int32} {t6 : Nat} {s7 : Int32} {u : Mem} {y : (Int32 × Mem) ⊕ (Int32 × Mem)} {o : Outcome} {u' : Mem} (h : bX0_addGuess_46 t0 i2 i3 i5 t6 s7 u = some y) (k0 : ∀ s' : Int32 × Mem, y = .inl s' → Rn l G iX0_addGuess (d + 2) 46 [(0, rv (some t0)), (2, .int i2), (3, .int i3), (5, .int i5), (6, rv (some t6)), (7, .int s'.1)] [] s'.2 o u') (k1 : ∀ r : Int32 × Mem, y = .inr (r) → Rn l G iX0_addGuess (d + 2) 89 [(0, rv (some t0)), (2, .int i2), (5, .int i5), (6, rv (some t6)), (7, .int r.1)] [] r.2 o u') : Rn l G iX0_addGuess (d + 2) 46 [(0, rv (some t0)), (2, .int i2), (3, .int i3), (5, .int i5), (6, rv (some t6)), (7, .int s7)] [] u o u' := by
  unfold bX0_addGuess_46 at h
  refine rn_iload (pc := 46) 5 dX0_addGuess_46 rfl ?_
  rcases if_elim h with ⟨c11, h1⟩ | ⟨c11, h1⟩
  · refine rn_zle_f (pc := 48) 89 dX0_addGuess_48 (by decide) c11 ?_
    refine rn_aload_n (pc := 51) 0 dX0_addGuess_51 rfl rfl ?_
    obtain ⟨v12, hv12, h2⟩ := bnd_some h1
    refine rn_getR (pc := 52) (k := 2) okX0 (by decide) tw_261 rfl dX0_addGuess_52 hv12 ?_
    refine rn_iload (pc := 55) 5 dX0_addGuess_55 rfl ?_
    refine rn_iconst (pc := 57) (v := 1) dX0_addGuess_57 (by decide) ?_
    refine rn_isub (pc := 58) dX0_addGuess_58 ?_
    obtain ⟨v13, hv13, h3⟩ := bnd_some h2
    refine rn_aald25 (pc := 59) dX0_addGuess_59 hv13 ?_
    refine rn_iload_n (pc := 60) 2 dX0_addGuess_60 rfl rfl ?_
    obtain ⟨v14, hv14, h4⟩ := bnd_some h3
    refine rn_callS (pc := 61) (n := 2) (As := [rv v13, .int i3]) (rest := []) (eX0_isBehind (d := d + 1) hv14) (by omega) tw_607 tw_72 tw_605 tw_606 (by decide +kernel) rfl (Nat.le_of_ble_eq_true rfl) dX0_addGuess_61 rfl ?_
    rcases if_elim h4 with ⟨c15, h5⟩ | ⟨c15, h5⟩
    · refine rn_zeq_t (pc := 64) (tgt := 89) dX0_addGuess_64 (by decide) c15 ?_
      cases h5
      exact rn_sub [0, 1, 3, 4, 5] rfl (k1 _ rfl)
    · refine rn_zeq_f (pc := 64) 89 dX0_addGuess_64 (by decide) c15 ?_
      refine rn_aload_n (pc := 67) 0 dX0_addGuess_67 rfl rfl ?_
      obtain ⟨v16, hv16, h6⟩ := bnd_some h5
      refine rn_getR (pc := 68) (k := 2) okX0 (by decide) tw_261 rfl dX0_addGuess_68 hv16 ?_
      refine rn_iload (pc := 71) 5 dX0_addGuess_71 rfl ?_
      refine rn_aload_n (pc := 73) 0 dX0_addGuess_73 rfl rfl ?_
      obtain ⟨v17, hv17, h7⟩ := bnd_some h6
      refine rn_getR (pc := 74) (k := 2) okX0 (by decide) tw_261 rfl dX0_addGuess_74 hv17 ?_
      refine rn_iload (pc := 77) 5 dX0_addGuess_77 rfl ?_
      refine rn_iconst (pc := 79) (v := 1) dX0_addGuess_79 (by decide) ?_
      refine rn_isub (pc := 80) dX0_addGuess_80 ?_
      obtain ⟨v18, hv18, h8⟩ := bnd_some h7
      refine rn_aald25 (pc := 81) dX0_addGuess_81 hv18 ?_
      obtain ⟨u19, hu19, h9⟩ := bnd_some h8
      refine rn_aast25 (pc := 82) dX0_addGuess_82 hu19 ?_
      obtain ⟨x20, ex20, h10⟩ := nm_elim h9
      refine rn_iinc (pc := 83) (v := x20) (lv' := [(7, .int x20), (0, rv (some t0)), (2, .int i2), (3, .int i3), (5, .int i5), (6, rv (some t6))]) 5 dX0_addGuess_83 rfl (by rw [ex20]; rfl) (by decide) rfl ?_
      refine rn_goto (pc := 86) (tgt := 46) dX0_addGuess_86 (by decide) ?_
      cases h10
      exact rn_sub [1, 2, 3, 4, 5, 0] rfl (k0 _ rfl)
  · refine rn_zle_t (pc := 48) (tgt := 89) dX0_addGuess_48 (by decide) c11 ?_
    cases h1
    exact rn_sub [0, 1, 3, 4, 5] rfl (k1 _ rfl)
theorem lX0_addGuess_46 {l : Launch} {G : Gt} {d : Nat} {t0 : Nat} {i2 : Int32} {i3 : Int32} {i5 : Int32} {t6 : Nat} {N : Nat} {s0 : Int32 × Mem} {r : Int32 × Mem} {o : Outcome} {u' : Mem} (h : lp (fun s : Int32 × Mem => bX0_addGuess_46 t0 i2 i3 i5 t6 s.1 s.2) N s0 = some r) (k1 : Rn l G iX0_addGuess (d + 2) 89 [(0, rv (some t0)), (2, .int i2), (5, .int i5), (6, rv (some t6)), (7, .int r.1)] [] r.2 o u') : Rn l G iX0_addGuess (d + 2) 46 [(0, rv (some t0)), (2, .int i2), (3, .int i3), (5, .int i5), (6, rv (some t6)), (7, .int s0.1)] [] s0.2 o u' :=
  lp_run (P := fun s : Int32 × Mem => Rn l G iX0_addGuess (d + 2) 46 [(0, rv (some t0)), (2, .int i2), (3, .int i3), (5, .int i5), (6, rv (some t6)), (7, .int s.1)] [] s.2 o u') (E := fun r => Rn l G iX0_addGuess (d + 2) 89 [(0, rv (some t0)), (2, .int i2), (5, .int i5), (6, rv (some t6)), (7, .int r.1)] [] r.2 o u') (fun s y hy k0 kE => btX0_addGuess_46 hy (fun s' e => k0 s' e) (fun r e => kE r e)) N s0 r h k1
theorem jtX0_addGuess_89 {l : Launch} {G : Gt} {d : Nat} {t0 : Nat} {p2 : Int32} {p5 : Int32} {p6 : Option Nat} {p7 : Int32} {u : Mem} {y : Int32 × Mem} (h : jX0_addGuess_89 t0 p2 p5 p6 p7 u = some y) : Rn l G iX0_addGuess (d + 2) 89 [(0, rv (some t0)), (2, .int p2), (5, .int p5), (6, rv p6), (7, .int p7)] [] u (.returned (some (.int y.1))) y.2 := by
  unfold jX0_addGuess_89 at h
  refine rn_aload_n (pc := 89) 0 dX0_addGuess_89 rfl rfl ?_
  obtain ⟨v22, hv22, h1⟩ := bnd_some h
  refine rn_getR (pc := 90) (k := 2) okX0 (by decide) tw_261 rfl dX0_addGuess_90 hv22 ?_
  refine rn_iload (pc := 93) 4 dX0_addGuess_93 rfl ?_
  refine rn_aload (pc := 95) 3 dX0_addGuess_95 rfl ?_
  obtain ⟨u23, hu23, h2⟩ := bnd_some h1
  refine rn_aast25 (pc := 97) dX0_addGuess_97 hu23 ?_
  refine rn_aload_n (pc := 98) 0 dX0_addGuess_98 rfl rfl ?_
  obtain ⟨v24, hv24, h3⟩ := bnd_some h2
  refine rn_getR (pc := 99) (k := 0) okX0 (by decide) tw_255 rfl dX0_addGuess_99 hv24 ?_
  refine rn_iload_n (pc := 102) 1 dX0_addGuess_102 rfl rfl ?_
  obtain ⟨v25, hv25, h4⟩ := bnd_some h3
  refine rn_aald24 (pc := 103) dX0_addGuess_103 hv25 ?_
  refine rn_dup (pc := 104) dX0_addGuess_104 (rv_cat _) ?_
  obtain ⟨v26, hv26, h5⟩ := bnd_some h4
  refine rn_getI (pc := 105) (k := 4) okX5 (by decide) tw_242 rfl dX0_addGuess_105 hv26 ?_
  refine rn_iconst (pc := 108) (v := 1) dX0_addGuess_108 (by decide) ?_
  refine rn_iadd (pc := 109) dX0_addGuess_109 ?_
  obtain ⟨u27, hu27, h6⟩ := bnd_some h5
  refine rn_putI (pc := 110) (k := 4) okX5 (by decide) tw_242 (Or.inl rfl) (Or.inl rfl) dX0_addGuess_110 hu27 ?_
  refine rn_aload_n (pc := 113) 0 dX0_addGuess_113 rfl rfl ?_
  refine rn_dup (pc := 114) dX0_addGuess_114 (rv_cat _) ?_
  obtain ⟨v28, hv28, h7⟩ := bnd_some h6
  refine rn_getI (pc := 115) (k := 4) okX0 (by decide) tw_269 rfl dX0_addGuess_115 hv28 ?_
  refine rn_iconst (pc := 118) (v := 1) dX0_addGuess_118 (by decide) ?_
  refine rn_iadd (pc := 119) dX0_addGuess_119 ?_
  obtain ⟨u29, hu29, h8⟩ := bnd_some h7
  refine rn_putI (pc := 120) (k := 4) okX0 (by decide) tw_269 (Or.inl rfl) (Or.inl rfl) dX0_addGuess_120 hu29 ?_
  refine rn_aload_n (pc := 123) 0 dX0_addGuess_123 rfl rfl ?_
  refine rn_dup (pc := 124) dX0_addGuess_124 (rv_cat _) ?_
  obtain ⟨v30, hv30, h9⟩ := bnd_some h8
  refine rn_getI (pc := 125) (k := 5) okX0 (by decide) tw_273 rfl dX0_addGuess_125 hv30 ?_
  refine rn_iconst (pc := 128) (v := 1) dX0_addGuess_128 (by decide) ?_
  refine rn_iadd (pc := 129) dX0_addGuess_129 ?_
  obtain ⟨u31, hu31, h10⟩ := bnd_some h9
  refine rn_putI (pc := 130) (k := 5) okX0 (by decide) tw_273 (Or.inl rfl) (Or.inl rfl) dX0_addGuess_130 hu31 ?_
  refine rn_iload (pc := 133) 2 dX0_addGuess_133 rfl ?_
  cases h10
  exact rn_iret (pc := 135) rfl dX0_addGuess_135
theorem tX0_addGuess {l : Launch} {G : Gt} {d : Nat} {t0 : Nat} {p1 : Int32} {p2 : Int32} {p3 : Int32} {p4 : Int32} {u : Mem} {y : Int32 × Mem} (h : fX0_addGuess t0 p1 p2 p3 p4 u = some y) : Rn l G iX0_addGuess (d + 2) 0 [(0, rv (some t0)), (1, .int p1), (2, .int p2), (3, .int p3), (4, .int p4)] [] u (.returned (some (.int y.1))) y.2 := by
  unfold fX0_addGuess at h
  refine rn_aload_n (pc := 0) 0 dX0_addGuess_0 rfl rfl ?_
  obtain ⟨v1, hv1, h1⟩ := bnd_some h
  refine rn_getI (pc := 1) (k := 4) okX0 (by decide) tw_269 rfl dX0_addGuess_1 hv1 ?_
  refine rn_istore (pc := 4) (lv' := [(5, .int v1), (0, rv (some t0)), (1, .int p1), (2, .int p2), (3, .int p3), (4, .int p4)]) dX0_addGuess_4 (by decide) rfl ?_
  obtain ⟨a2, u3, ha2, h2⟩ := bnd2_some h1
  refine rn_new (pc := 6) okX3 (by decide +kernel) tw_222 tw_612 tw_88 dX0_addGuess_6 ha2 ?_
  refine rn_dup (pc := 9) dX0_addGuess_9 (rv_cat _) ?_
  refine rn_iload_n (pc := 10) 2 dX0_addGuess_10 rfl rfl ?_
  refine rn_iload_n (pc := 11) 3 dX0_addGuess_11 rfl rfl ?_
  refine rn_iload_n (pc := 12) 4 dX0_addGuess_12 rfl rfl ?_
  refine rn_iload (pc := 13) 5 dX0_addGuess_13 rfl ?_
  refine rn_aload_n (pc := 15) 1 dX0_addGuess_15 rfl rfl ?_
  obtain ⟨v4, hv4, h3⟩ := bnd_some h2
  refine rn_getR (pc := 16) (k := 1) okX0 (by decide) tw_259 rfl dX0_addGuess_16 hv4 ?_
  refine rn_iload_n (pc := 19) 2 dX0_addGuess_19 rfl rfl ?_
  refine rn_iload_n (pc := 20) 3 dX0_addGuess_20 rfl rfl ?_
  obtain ⟨v5, hv5, h4⟩ := bnd_some h3
  refine rn_callSN (pc := 21) (host := "ForeBook") (n := 2) (As := [.int p1, .int p2]) (rest := [rv v4, .int p4, .int p3, .int p2, .int p1, rv (some a2), rv (some a2)]) (eX10_cell (d := d + 1) hv5) (by omega) tw_604 tw_68 (by decide +kernel) tw_603 (by decide +kernel) rfl (by generalize v4 = q0; cases q0 <;> exact Nat.le_of_ble_eq_true rfl) dX0_addGuess_21 rfl ?_
  obtain ⟨v6, hv6, h5⟩ := bnd_some h4
  refine rn_aald25 (pc := 24) dX0_addGuess_24 hv6 ?_
  obtain ⟨u7, hu7, h6⟩ := bnd_some h5
  refine rn_callI (pc := 25) (n := 5) (As := [.int p1, .int p2, .int p3, .int p4, rv v6]) (rest := [rv (some a2)]) (eX3_init (d := d + 0) hu7) (by omega) rfl tw_615 tw_88 tw_613 tw_614 rfl (by decide +kernel) rfl (Nat.le_of_ble_eq_true rfl) dX0_addGuess_25 rfl ?_
  refine rn_astore (pc := 28) (lv' := [(6, rv (some a2)), (5, .int v1), (0, rv (some t0)), (1, .int p1), (2, .int p2), (3, .int p3), (4, .int p4)]) dX0_addGuess_28 (by decide) rfl ?_
  refine rn_aload_n (pc := 30) 2 dX0_addGuess_30 rfl rfl ?_
  obtain ⟨v8, hv8, h7⟩ := bnd_some h6
  refine rn_getR (pc := 31) (k := 1) okX0 (by decide) tw_259 rfl dX0_addGuess_31 hv8 ?_
  refine rn_iload_n (pc := 34) 3 dX0_addGuess_34 rfl rfl ?_
  refine rn_iload_n (pc := 35) 4 dX0_addGuess_35 rfl rfl ?_
  obtain ⟨v9, hv9, h8⟩ := bnd_some h7
  refine rn_callSN (pc := 36) (host := "ForeBook") (n := 2) (As := [.int p1, .int p2]) (rest := [rv v8]) (eX10_cell (d := d + 1) hv9) (by omega) tw_604 tw_68 (by decide +kernel) tw_603 (by decide +kernel) rfl (cat_le8 (Nat.le_of_ble_eq_true rfl)) dX0_addGuess_36 rfl ?_
  refine rn_aload (pc := 39) 0 dX0_addGuess_39 rfl ?_
  obtain ⟨u10, hu10, h9⟩ := bnd_some h8
  refine rn_aast25 (pc := 41) dX0_addGuess_41 hu10 ?_
  refine rn_iload (pc := 42) 1 dX0_addGuess_42 rfl ?_
  refine rn_istore (pc := 44) (lv' := [(7, .int v1), (6, rv (some a2)), (5, .int v1), (0, rv (some t0)), (1, .int p1), (2, .int p2), (3, .int p3), (4, .int p4)]) dX0_addGuess_44 (by decide) rfl ?_
  obtain ⟨r21, hr21, h10⟩ := bnd_some h9
  refine rn_sub [3, 5, 6, 2, 1, 0] rfl (lX0_addGuess_46 hr21 ?_)
  exact rn_sub [0, 1, 2, 3, 4] rfl (jtX0_addGuess_89 h10)
theorem eX0_addGuess {l : Launch} {G : Gt} {d : Nat} {t0 : Nat} {p1 : Int32} {p2 : Int32} {p3 : Int32} {p4 : Int32} {u : Mem} {y : Int32 × Mem} (h : fX0_addGuess t0 p1 p2 p3 p4 u = some y) : Ex l G iX0_addGuess (d + 2) [rv (some t0), .int p1, .int p2, .int p3, .int p4] u (.returned (some (.int y.1))) y.2 := Ex.of (by decide +kernel) (by decide) (Nat.le_of_ble_eq_true rfl) rfl (tX0_addGuess h)
theorem tX0_hasLaterGuess {l : Launch} {G : Gt} {d : Nat} {t0 : Nat} {p1 : Int32} {p2 : Int32} {p3 : Int32} {u : Mem} {y : Int32} (h : fX0_hasLaterGuess t0 p1 p2 p3 u = some y) : Rn l G iX0_hasLaterGuess (d + 1) 0 [(0, rv (some t0)), (1, .int p1), (2, .int p2), (3, .int p3)] [] u (.returned (some (.int y))) u := by
  unfold fX0_hasLaterGuess at h
  refine rn_aload_n (pc := 0) 0 dX0_hasLaterGuess_0 rfl rfl ?_
  obtain ⟨v1, hv1, h1⟩ := bnd_some h
  refine rn_getR (pc := 1) (k := 1) okX0 (by decide) tw_259 rfl dX0_hasLaterGuess_1 hv1 ?_
  refine rn_iload_n (pc := 4) 1 dX0_hasLaterGuess_4 rfl rfl ?_
  refine rn_iload_n (pc := 5) 2 dX0_hasLaterGuess_5 rfl rfl ?_
  obtain ⟨v2, hv2, h2⟩ := bnd_some h1
  refine rn_callSN (pc := 6) (host := "ForeBook") (n := 2) (As := [.int p1, .int p2]) (rest := [rv v1]) (eX10_cell (d := d + 0) hv2) (by omega) tw_604 tw_68 (by decide +kernel) tw_603 (by decide +kernel) rfl (cat_le8 (Nat.le_of_ble_eq_true rfl)) dX0_hasLaterGuess_6 rfl ?_
  obtain ⟨v3, hv3, h3⟩ := bnd_some h2
  refine rn_aald25 (pc := 9) dX0_hasLaterGuess_9 hv3 ?_
  refine rn_iload_n (pc := 10) 3 dX0_hasLaterGuess_10 rfl rfl ?_
  obtain ⟨v4, hv4, h4⟩ := bnd_some h3
  refine rn_callS (pc := 11) (n := 2) (As := [rv v3, .int p3]) (rest := []) (eX0_isBehind (d := d + 0) hv4) (by omega) tw_607 tw_72 tw_605 tw_606 (by decide +kernel) rfl (Nat.le_of_ble_eq_true rfl) dX0_hasLaterGuess_11 rfl ?_
  obtain ⟨rfl, hz⟩ := retZ_elim h4
  exact rn_zret (pc := 14) hz rfl dX0_hasLaterGuess_14
theorem eX0_hasLaterGuess {l : Launch} {G : Gt} {d : Nat} {t0 : Nat} {p1 : Int32} {p2 : Int32} {p3 : Int32} {u : Mem} {y : Int32} (h : fX0_hasLaterGuess t0 p1 p2 p3 u = some y) : Ex l G iX0_hasLaterGuess (d + 1) [rv (some t0), .int p1, .int p2, .int p3] u (.returned (some (.int y))) u := Ex.of (by decide +kernel) (by decide) (Nat.le_of_ble_eq_true rfl) rfl (tX0_hasLaterGuess h)
theorem btX0_latestUpTo_7 {l : Launch} {G : Gt} {d : Nat} {i2 : Int32} {u : Mem} {s3 : Option Nat} {y : (Option Nat) ⊕ (Option Nat)} {o : Outcome} {u' : Mem} (h : bX0_latestUpTo_7 i2 u s3 = some y) (k0 : ∀ s' : Option Nat, y = .inl s' → Rn l G iX0_latestUpTo d 7 [(2, .int i2), (3, rv s')] [] u o u') (k1 : ∀ r : Option Nat, y = .inr (r) → Rn l G iX0_latestUpTo d 27 [(3, rv r)] [] u o u') : Rn l G iX0_latestUpTo d 7 [(2, .int i2), (3, rv s3)] [] u o u' := by
  unfold bX0_latestUpTo_7 at h
  refine rn_aload_n (pc := 7) 1 dX0_latestUpTo_7 rfl rfl ?_
  rcases if_elim h with ⟨c3, h1⟩ | ⟨c3, h1⟩
  · refine rn_ifnull_t (pc := 8) (tgt := 27) dX0_latestUpTo_8 (by decide) c3 ?_
    cases h1
    exact rn_sub [1] rfl (k1 _ rfl)
  · refine rn_ifnull_f (pc := 8) dX0_latestUpTo_8 c3 ?_
    refine rn_aload_n (pc := 11) 1 dX0_latestUpTo_11 rfl rfl ?_
    obtain ⟨v4, hv4, h2⟩ := bnd_some h1
    refine rn_getI (pc := 12) (k := 2) okX3 (by decide) tw_624 rfl dX0_latestUpTo_12 hv4 ?_
    refine rn_iload_n (pc := 15) 0 dX0_latestUpTo_15 rfl rfl ?_
    rcases if_elim h2 with ⟨c5, h3⟩ | ⟨c5, h3⟩
    · refine rn_ile_f (pc := 16) 27 dX0_latestUpTo_16 (by decide) c5 ?_
      refine rn_aload_n (pc := 19) 1 dX0_latestUpTo_19 rfl rfl ?_
      obtain ⟨v6, hv6, h4⟩ := bnd_some h3
      refine rn_getR (pc := 20) (k := 4) okX3 (by decide) tw_631 rfl dX0_latestUpTo_20 hv6 ?_
      refine rn_astore_n (pc := 23) (lv' := [(3, rv v6), (2, .int i2)]) dX0_latestUpTo_23 rfl (by decide) rfl ?_
      refine rn_goto (pc := 24) (tgt := 7) dX0_latestUpTo_24 (by decide) ?_
      cases h4
      exact rn_sub [1, 0] rfl (k0 _ rfl)
    · refine rn_ile_t (pc := 16) (tgt := 27) dX0_latestUpTo_16 (by decide) c5 ?_
      cases h3
      exact rn_sub [1] rfl (k1 _ rfl)
theorem lX0_latestUpTo_7 {l : Launch} {G : Gt} {d : Nat} {i2 : Int32} {u : Mem} {N : Nat} {s0 : Option Nat} {r : Option Nat} {o : Outcome} {u' : Mem} (h : lp (fun s : Option Nat => bX0_latestUpTo_7 i2 u s) N s0 = some r) (k1 : Rn l G iX0_latestUpTo d 27 [(3, rv r)] [] u o u') : Rn l G iX0_latestUpTo d 7 [(2, .int i2), (3, rv s0)] [] u o u' :=
  lp_run (P := fun s : Option Nat => Rn l G iX0_latestUpTo d 7 [(2, .int i2), (3, rv s)] [] u o u') (E := fun r => Rn l G iX0_latestUpTo d 27 [(3, rv r)] [] u o u') (fun s y hy k0 kE => btX0_latestUpTo_7 hy (fun s' e => k0 s' e) (fun r e => kE r e)) N s0 r h k1
theorem tX0_latestUpTo {l : Launch} {G : Gt} {d : Nat} {t0 : Nat} {p1 : Int32} {p2 : Int32} {u : Mem} {y : Option Nat} (h : fX0_latestUpTo t0 p1 p2 u = some y) : Rn l G iX0_latestUpTo d 0 [(0, rv (some t0)), (1, .int p1), (2, .int p2)] [] u (.returned (some (rv y))) u := by
  unfold fX0_latestUpTo at h
  refine rn_aload_n (pc := 0) 0 dX0_latestUpTo_0 rfl rfl ?_
  obtain ⟨v1, hv1, h1⟩ := bnd_some h
  refine rn_getR (pc := 1) (k := 1) okX0 (by decide) tw_259 rfl dX0_latestUpTo_1 hv1 ?_
  refine rn_iload_n (pc := 4) 1 dX0_latestUpTo_4 rfl rfl ?_
  obtain ⟨v2, hv2, h2⟩ := bnd_some h1
  refine rn_aald25 (pc := 5) dX0_latestUpTo_5 hv2 ?_
  refine rn_astore_n (pc := 6) (lv' := [(3, rv v2), (0, rv (some t0)), (1, .int p1), (2, .int p2)]) dX0_latestUpTo_6 rfl (by decide) rfl ?_
  obtain ⟨r7, hr7, h3⟩ := bnd_some h2
  refine rn_sub [3, 0] rfl (lX0_latestUpTo_7 hr7 ?_)
  refine rn_aload_n (pc := 27) 0 dX0_latestUpTo_27 rfl rfl ?_
  cases h3
  exact rn_aret (pc := 28) rfl dX0_latestUpTo_28
theorem eX0_latestUpTo {l : Launch} {G : Gt} {d : Nat} {t0 : Nat} {p1 : Int32} {p2 : Int32} {u : Mem} {y : Option Nat} (h : fX0_latestUpTo t0 p1 p2 u = some y) : Ex l G iX0_latestUpTo d [rv (some t0), .int p1, .int p2] u (.returned (some (rv y))) u := Ex.of (by decide +kernel) (by decide) (Nat.le_of_ble_eq_true rfl) rfl (tX0_latestUpTo h)
theorem tX0_heldTenth {l : Launch} {G : Gt} {d : Nat} {t0 : Nat} {p1 : Int32} {p2 : Int32} {p3 : Int32} {u : Mem} {y : Int32} (h : fX0_heldTenth t0 p1 p2 p3 u = some y) : Rn l G iX0_heldTenth (d + 1) 0 [(0, rv (some t0)), (1, .int p1), (2, .int p2), (3, .int p3)] [] u (.returned (some (.int y))) u := by
  unfold fX0_heldTenth at h
  refine rn_aload_n (pc := 0) 0 dX0_heldTenth_0 rfl rfl ?_
  refine rn_iload_n (pc := 1) 1 dX0_heldTenth_1 rfl rfl ?_
  refine rn_iload_n (pc := 2) 2 dX0_heldTenth_2 rfl rfl ?_
  obtain ⟨v1, hv1, h1⟩ := bnd_some h
  refine rn_callSN (pc := 3) (host := "ForeBook") (n := 2) (As := [.int p1, .int p2]) (rest := [rv (some t0)]) (eX10_cell (d := d + 0) hv1) (by omega) tw_604 tw_68 (by decide +kernel) tw_603 (by decide +kernel) rfl (Nat.le_of_ble_eq_true rfl) dX0_heldTenth_3 rfl ?_
  refine rn_iload_n (pc := 6) 3 dX0_heldTenth_6 rfl rfl ?_
  obtain ⟨b2, hb2, h2⟩ := bnd_some h1
  obtain ⟨qb2, kb2⟩ := chk_elim hb2
  cases qb2
  obtain ⟨v3, hv3, h3⟩ := bnd_some h2
  refine rn_callV (pc := 7) (n := 2) (As := [.int v1, .int p3]) (rest := []) (eX0_latestUpTo (d := d + 0) hv3) (by omega) okX0 kb2 tw_654 tw_72 tw_651 tw_652 tw_653 (by decide +kernel) rfl (Nat.le_of_ble_eq_true rfl) dX0_heldTenth_7 rfl ?_
  refine rn_astore (pc := 10) (lv' := [(4, rv v3), (0, rv (some t0)), (1, .int p1), (2, .int p2), (3, .int p3)]) dX0_heldTenth_10 (by decide) rfl ?_
  refine rn_aload (pc := 12) 0 dX0_heldTenth_12 rfl ?_
  rcases if_elim h3 with ⟨c4, h4⟩ | ⟨c4, h4⟩
  · refine rn_ifnonnull_f (pc := 14) dX0_heldTenth_14 c4 ?_
    refine rn_iconst (pc := 17) (v := -1) dX0_heldTenth_17 (by decide) ?_
    refine rn_goto (pc := 18) (tgt := 26) dX0_heldTenth_18 (by decide) ?_
    cases h4
    exact rn_iret (pc := 26) rfl dX0_heldTenth_26
  · refine rn_ifnonnull_t (pc := 14) (tgt := 21) dX0_heldTenth_14 (by decide) c4 ?_
    refine rn_aload (pc := 21) 0 dX0_heldTenth_21 rfl ?_
    obtain ⟨v5, hv5, h5⟩ := bnd_some h4
    refine rn_getI (pc := 23) (k := 3) okX3 (by decide) tw_628 rfl dX0_heldTenth_23 hv5 ?_
    cases h5
    exact rn_iret (pc := 26) rfl dX0_heldTenth_26
theorem eX0_heldTenth {l : Launch} {G : Gt} {d : Nat} {t0 : Nat} {p1 : Int32} {p2 : Int32} {p3 : Int32} {u : Mem} {y : Int32} (h : fX0_heldTenth t0 p1 p2 p3 u = some y) : Ex l G iX0_heldTenth (d + 1) [rv (some t0), .int p1, .int p2, .int p3] u (.returned (some (.int y))) u := Ex.of (by decide +kernel) (by decide) (Nat.le_of_ble_eq_true rfl) rfl (tX0_heldTenth h)
theorem tX1_init {l : Launch} {G : Gt} {d : Nat} {t0 : Nat} {p1 : Option Nat} {p2 : Option Nat} {u : Mem} {y : Mem} (h : fX1_init t0 p1 p2 u = some y) : Rn l G iX1_init (d + 1) 0 [(0, rv (some t0)), (1, rv p1), (2, rv p2)] [] u (.returned none) y := by
  unfold fX1_init at h
  refine rn_aload_n (pc := 0) 0 dX1_init_0 rfl rfl ?_
  refine rn_objInit (pc := 1) (by omega) tw_293 tw_97 tw_98 (by decide) dX1_init_1 ?_
  refine rn_aload_n (pc := 4) 0 dX1_init_4 rfl rfl ?_
  refine rn_sipush (pc := 5) (v := 400) dX1_init_5 (by decide) ?_
  obtain ⟨a1, u2, ha1, h1⟩ := bnd2_some h
  refine rn_newa (pc := 8) (N := 400) (atype := .int) (by decide) rfl tw_172 (by decide) (by decide) (by decide) dX1_init_8 ha1 ?_
  obtain ⟨u3, hu3, h2⟩ := bnd_some h1
  refine rn_putR (pc := 10) (k := 0) okX1 (by decide) tw_294 (Or.inr ⟨rfl, rfl, rfl⟩) rfl dX1_init_10 hu3 ?_
  refine rn_aload_n (pc := 13) 0 dX1_init_13 rfl rfl ?_
  refine rn_sipush (pc := 14) (v := 400) dX1_init_14 (by decide) ?_
  obtain ⟨a4, u5, ha4, h3⟩ := bnd2_some h2
  refine rn_newa (pc := 17) (N := 400) (atype := .int) (by decide) rfl tw_172 (by decide) (by decide) (by decide) dX1_init_17 ha4 ?_
  obtain ⟨u6, hu6, h4⟩ := bnd_some h3
  refine rn_putR (pc := 19) (k := 1) okX1 (by decide) tw_297 (Or.inr ⟨rfl, rfl, rfl⟩) rfl dX1_init_19 hu6 ?_
  refine rn_aload_n (pc := 22) 0 dX1_init_22 rfl rfl ?_
  refine rn_bipush (pc := 23) (v := 20) dX1_init_23 (by decide) ?_
  obtain ⟨a7, u8, ha7, h5⟩ := bnd2_some h4
  refine rn_newa (pc := 25) (N := 20) (atype := .int) (by decide) rfl tw_172 (by decide) (by decide) (by decide) dX1_init_25 ha7 ?_
  obtain ⟨u9, hu9, h6⟩ := bnd_some h5
  refine rn_putR (pc := 27) (k := 4) okX1 (by decide) tw_302 (Or.inr ⟨rfl, rfl, rfl⟩) rfl dX1_init_27 hu9 ?_
  refine rn_aload_n (pc := 30) 0 dX1_init_30 rfl rfl ?_
  refine rn_bipush (pc := 31) (v := 20) dX1_init_31 (by decide) ?_
  obtain ⟨a10, u11, ha10, h7⟩ := bnd2_some h6
  refine rn_newa (pc := 33) (N := 20) (atype := .int) (by decide) rfl tw_172 (by decide) (by decide) (by decide) dX1_init_33 ha10 ?_
  obtain ⟨u12, hu12, h8⟩ := bnd_some h7
  refine rn_putR (pc := 35) (k := 5) okX1 (by decide) tw_303 (Or.inr ⟨rfl, rfl, rfl⟩) rfl dX1_init_35 hu12 ?_
  refine rn_aload_n (pc := 38) 0 dX1_init_38 rfl rfl ?_
  refine rn_iconst (pc := 39) (v := -1) dX1_init_39 (by decide) ?_
  obtain ⟨u13, hu13, h9⟩ := bnd_some h8
  refine rn_putI (pc := 40) (k := 6) okX1 (by decide) tw_304 (Or.inl rfl) (Or.inl rfl) dX1_init_40 hu13 ?_
  refine rn_aload_n (pc := 43) 0 dX1_init_43 rfl rfl ?_
  refine rn_aload_n (pc := 44) 1 dX1_init_44 rfl rfl ?_
  obtain ⟨u14, hu14, h10⟩ := bnd_some h9
  refine rn_putR (pc := 45) (k := 2) okX1 (by decide) tw_300 (Or.inr ⟨rfl, rfl, rfl⟩) rfl dX1_init_45 hu14 ?_
  refine rn_aload_n (pc := 48) 0 dX1_init_48 rfl rfl ?_
  refine rn_aload_n (pc := 49) 2 dX1_init_49 rfl rfl ?_
  obtain ⟨u15, hu15, h11⟩ := bnd_some h10
  refine rn_putR (pc := 50) (k := 3) okX1 (by decide) tw_301 (Or.inr ⟨rfl, rfl, rfl⟩) rfl dX1_init_50 hu15 ?_
  cases h11
  exact rn_vret (pc := 53) rfl dX1_init_53
theorem eX1_init {l : Launch} {G : Gt} {d : Nat} {t0 : Nat} {p1 : Option Nat} {p2 : Option Nat} {u : Mem} {y : Mem} (h : fX1_init t0 p1 p2 u = some y) : Ex l G iX1_init (d + 1) [rv (some t0), rv p1, rv p2] u (.returned none) y := Ex.of (by decide +kernel) (by decide) (by cases p1 <;> cases p2 <;> exact Nat.le_of_ble_eq_true rfl) (by cases p1 <;> cases p2 <;> rfl) (tX1_init h)
theorem tX5_isSettled {l : Launch} {G : Gt} {d : Nat} {t0 : Nat} {u : Mem} {y : Int32} (h : fX5_isSettled t0 u = some y) : Rn l G iX5_isSettled d 0 [(0, rv (some t0))] [] u (.returned (some (.int y))) u := by
  unfold fX5_isSettled at h
  refine rn_aload_n (pc := 0) 0 dX5_isSettled_0 rfl rfl ?_
  obtain ⟨v1, hv1, h1⟩ := bnd_some h
  refine rn_getI (pc := 1) (k := 2) okX5 (by decide) tw_235 rfl dX5_isSettled_1 hv1 ?_
  rcases if_elim h1 with ⟨c2, h2⟩ | ⟨c2, h2⟩
  · refine rn_zeq_t (pc := 4) (tgt := 15) dX5_isSettled_4 (by decide) c2 ?_
    refine rn_iconst (pc := 15) (v := 1) dX5_isSettled_15 (by decide) ?_
    refine rn_goto (pc := 16) (tgt := 20) dX5_isSettled_16 (by decide) ?_
    cases h2
    exact rn_zret (pc := 20) (by decide) rfl dX5_isSettled_20
  · refine rn_zeq_f (pc := 4) 15 dX5_isSettled_4 (by decide) c2 ?_
    refine rn_aload_n (pc := 7) 0 dX5_isSettled_7 rfl rfl ?_
    obtain ⟨v3, hv3, h3⟩ := bnd_some h2
    refine rn_getI (pc := 8) (k := 2) okX5 (by decide) tw_235 rfl dX5_isSettled_8 hv3 ?_
    refine rn_iconst (pc := 11) (v := 1) dX5_isSettled_11 (by decide) ?_
    rcases if_elim h3 with ⟨c4, h4⟩ | ⟨c4, h4⟩
    · refine rn_ine_f (pc := 12) 19 dX5_isSettled_12 (by decide) c4 ?_
      refine rn_iconst (pc := 15) (v := 1) dX5_isSettled_15 (by decide) ?_
      refine rn_goto (pc := 16) (tgt := 20) dX5_isSettled_16 (by decide) ?_
      cases h4
      exact rn_zret (pc := 20) (by decide) rfl dX5_isSettled_20
    · refine rn_ine_t (pc := 12) (tgt := 19) dX5_isSettled_12 (by decide) c4 ?_
      refine rn_iconst (pc := 19) (v := 0) dX5_isSettled_19 (by decide) ?_
      cases h4
      exact rn_zret (pc := 20) (by decide) rfl dX5_isSettled_20
theorem eX5_isSettled {l : Launch} {G : Gt} {d : Nat} {t0 : Nat} {u : Mem} {y : Int32} (h : fX5_isSettled t0 u = some y) : Ex l G iX5_isSettled d [rv (some t0)] u (.returned (some (.int y))) u := Ex.of (by decide +kernel) (by decide) (Nat.le_of_ble_eq_true rfl) rfl (tX5_isSettled h)
theorem tX5_endOfRows {l : Launch} {G : Gt} {d : Nat} {t0 : Nat} {u : Mem} {y : Int32} (h : fX5_endOfRows t0 u = some y) : Rn l G iX5_endOfRows (d + 1) 0 [(0, rv (some t0))] [] u (.returned (some (.int y))) u := by
  unfold fX5_endOfRows at h
  refine rn_aload_n (pc := 0) 0 dX5_endOfRows_0 rfl rfl ?_
  obtain ⟨b1, hb1, h1⟩ := bnd_some h
  obtain ⟨qb1, kb1⟩ := chk_elim hb1
  cases qb1
  obtain ⟨v2, hv2, h2⟩ := bnd_some h1
  refine rn_callV (pc := 1) (n := 0) (As := []) (rest := []) (eX5_isSettled (d := d + 0) hv2) (by omega) okX5 kb1 tw_672 tw_73 tw_677 tw_670 tw_671 (by decide +kernel) rfl (Nat.le_of_ble_eq_true rfl) dX5_endOfRows_1 rfl ?_
  rcases if_elim h2 with ⟨c3, h3⟩ | ⟨c3, h3⟩
  · refine rn_zeq_t (pc := 4) (tgt := 23) dX5_endOfRows_4 (by decide) c3 ?_
    refine rn_aload_n (pc := 23) 0 dX5_endOfRows_23 rfl rfl ?_
    obtain ⟨v4, hv4, h4⟩ := bnd_some h3
    refine rn_getI (pc := 24) (k := 0) okX5 (by decide) tw_228 rfl dX5_endOfRows_24 hv4 ?_
    cases h4
    exact rn_iret (pc := 27) rfl dX5_endOfRows_27
  · refine rn_zeq_f (pc := 4) 23 dX5_endOfRows_4 (by decide) c3 ?_
    refine rn_aload_n (pc := 7) 0 dX5_endOfRows_7 rfl rfl ?_
    obtain ⟨v5, hv5, h5⟩ := bnd_some h3
    refine rn_getI (pc := 8) (k := 1) okX5 (by decide) tw_232 rfl dX5_endOfRows_8 hv5 ?_
    refine rn_iconst (pc := 11) (v := 1) dX5_endOfRows_11 (by decide) ?_
    refine rn_iadd (pc := 12) dX5_endOfRows_12 ?_
    refine rn_aload_n (pc := 13) 0 dX5_endOfRows_13 rfl rfl ?_
    obtain ⟨v6, hv6, h6⟩ := bnd_some h5
    refine rn_getI (pc := 14) (k := 3) okX5 (by decide) tw_239 rfl dX5_endOfRows_14 hv6 ?_
    refine rn_mmin (pc := 17) (rest := []) (by omega) tw_678 (Nat.le_of_ble_eq_true rfl) dX5_endOfRows_17 ?_
    refine rn_goto (pc := 20) (tgt := 27) dX5_endOfRows_20 (by decide) ?_
    cases h6
    exact rn_iret (pc := 27) rfl dX5_endOfRows_27
theorem eX5_endOfRows {l : Launch} {G : Gt} {d : Nat} {t0 : Nat} {u : Mem} {y : Int32} (h : fX5_endOfRows t0 u = some y) : Ex l G iX5_endOfRows (d + 1) [rv (some t0)] u (.returned (some (.int y))) u := Ex.of (by decide +kernel) (by decide) (Nat.le_of_ble_eq_true rfl) rfl (tX5_endOfRows h)
theorem tX7_cost {l : Launch} {G : Gt} {d : Nat} {t0 : Nat} {p1 : Int32} {p2 : Int32} {u : Mem} {y : Int32} (h : fX7_cost t0 p1 p2 u = some y) : Rn l G iX7_cost d 0 [(0, rv (some t0)), (1, .int p1), (2, .int p2)] [] u (.returned (some (.int y))) u := by
  unfold fX7_cost at h
  refine rn_iload_n (pc := 0) 1 dX7_cost_0 rfl rfl ?_
  refine rn_iconst (pc := 1) (v := 1) dX7_cost_1 (by decide) ?_
  rcases if_elim h with ⟨c1, h1⟩ | ⟨c1, h1⟩
  · refine rn_ine_f (pc := 2) 14 dX7_cost_2 (by decide) c1 ?_
    refine rn_aload_n (pc := 5) 0 dX7_cost_5 rfl rfl ?_
    obtain ⟨v2, hv2, h2⟩ := bnd_some h1
    refine rn_getR (pc := 6) (k := 0) okX7 (by decide) tw_131 rfl dX7_cost_6 hv2 ?_
    refine rn_iload_n (pc := 9) 2 dX7_cost_9 rfl rfl ?_
    obtain ⟨v3, hv3, h3⟩ := bnd_some h2
    refine rn_iald (pc := 10) dX7_cost_10 hv3 ?_
    refine rn_goto (pc := 11) (tgt := 20) dX7_cost_11 (by decide) ?_
    cases h3
    exact rn_iret (pc := 20) rfl dX7_cost_20
  · refine rn_ine_t (pc := 2) (tgt := 14) dX7_cost_2 (by decide) c1 ?_
    refine rn_aload_n (pc := 14) 0 dX7_cost_14 rfl rfl ?_
    obtain ⟨v4, hv4, h4⟩ := bnd_some h1
    refine rn_getR (pc := 15) (k := 1) okX7 (by decide) tw_135 rfl dX7_cost_15 hv4 ?_
    refine rn_iload_n (pc := 18) 2 dX7_cost_18 rfl rfl ?_
    obtain ⟨v5, hv5, h5⟩ := bnd_some h4
    refine rn_iald (pc := 19) dX7_cost_19 hv5 ?_
    cases h5
    exact rn_iret (pc := 20) rfl dX7_cost_20
theorem eX7_cost {l : Launch} {G : Gt} {d : Nat} {t0 : Nat} {p1 : Int32} {p2 : Int32} {u : Mem} {y : Int32} (h : fX7_cost t0 p1 p2 u = some y) : Ex l G iX7_cost d [rv (some t0), .int p1, .int p2] u (.returned (some (.int y))) u := Ex.of (by decide +kernel) (by decide) (Nat.le_of_ble_eq_true rfl) rfl (tX7_cost h)
theorem tX1_addRows {l : Launch} {G : Gt} {d : Nat} {t0 : Nat} {p1 : Int32} {p2 : Int32} {p3 : Int32} {u : Mem} {y : Mem} (h : fX1_addRows t0 p1 p2 p3 u = some y) : Rn l G iX1_addRows d 0 [(0, rv (some t0)), (1, .int p1), (2, .int p2), (3, .int p3)] [] u (.returned none) y := by
  unfold fX1_addRows at h
  refine rn_aload_n (pc := 0) 0 dX1_addRows_0 rfl rfl ?_
  obtain ⟨v1, hv1, h1⟩ := bnd_some h
  refine rn_getR (pc := 1) (k := 0) okX1 (by decide) tw_294 rfl dX1_addRows_1 hv1 ?_
  refine rn_iload_n (pc := 4) 1 dX1_addRows_4 rfl rfl ?_
  refine rn_dup2 (pc := 5) dX1_addRows_5 rfl (rv_cat _) ?_
  obtain ⟨v2, hv2, h2⟩ := bnd_some h1
  refine rn_iald (pc := 6) dX1_addRows_6 hv2 ?_
  refine rn_iload_n (pc := 7) 2 dX1_addRows_7 rfl rfl ?_
  refine rn_iadd (pc := 8) dX1_addRows_8 ?_
  obtain ⟨u3, hu3, h3⟩ := bnd_some h2
  refine rn_iast (pc := 9) dX1_addRows_9 hu3 ?_
  refine rn_aload_n (pc := 10) 0 dX1_addRows_10 rfl rfl ?_
  obtain ⟨v4, hv4, h4⟩ := bnd_some h3
  refine rn_getR (pc := 11) (k := 1) okX1 (by decide) tw_297 rfl dX1_addRows_11 hv4 ?_
  refine rn_iload_n (pc := 14) 1 dX1_addRows_14 rfl rfl ?_
  refine rn_dup2 (pc := 15) dX1_addRows_15 rfl (rv_cat _) ?_
  obtain ⟨v5, hv5, h5⟩ := bnd_some h4
  refine rn_iald (pc := 16) dX1_addRows_16 hv5 ?_
  refine rn_iload_n (pc := 17) 2 dX1_addRows_17 rfl rfl ?_
  refine rn_iload_n (pc := 18) 3 dX1_addRows_18 rfl rfl ?_
  refine rn_imul (pc := 19) dX1_addRows_19 ?_
  refine rn_iadd (pc := 20) dX1_addRows_20 ?_
  obtain ⟨u6, hu6, h6⟩ := bnd_some h5
  refine rn_iast (pc := 21) dX1_addRows_21 hu6 ?_
  cases h6
  exact rn_vret (pc := 22) rfl dX1_addRows_22
theorem eX1_addRows {l : Launch} {G : Gt} {d : Nat} {t0 : Nat} {p1 : Int32} {p2 : Int32} {p3 : Int32} {u : Mem} {y : Mem} (h : fX1_addRows t0 p1 p2 p3 u = some y) : Ex l G iX1_addRows d [rv (some t0), .int p1, .int p2, .int p3] u (.returned none) y := Ex.of (by decide +kernel) (by decide) (Nat.le_of_ble_eq_true rfl) rfl (tX1_addRows h)
theorem tX7_countsMissingAsHalf {l : Launch} {G : Gt} {d : Nat} {t0 : Nat} {u : Mem} {y : Int32} (h : fX7_countsMissingAsHalf t0 u = some y) : Rn l G iX7_countsMissingAsHalf d 0 [(0, rv (some t0))] [] u (.returned (some (.int y))) u := by
  unfold fX7_countsMissingAsHalf at h
  refine rn_aload_n (pc := 0) 0 dX7_countsMissingAsHalf_0 rfl rfl ?_
  obtain ⟨v1, hv1, h1⟩ := bnd_some h
  refine rn_getI (pc := 1) (k := 2) okX7 (by decide) tw_139 rfl dX7_countsMissingAsHalf_1 hv1 ?_
  refine rn_iconst (pc := 4) (v := 1) dX7_countsMissingAsHalf_4 (by decide) ?_
  rcases if_elim h1 with ⟨c2, h2⟩ | ⟨c2, h2⟩
  · refine rn_ine_f (pc := 5) 12 dX7_countsMissingAsHalf_5 (by decide) c2 ?_
    refine rn_iconst (pc := 8) (v := 1) dX7_countsMissingAsHalf_8 (by decide) ?_
    refine rn_goto (pc := 9) (tgt := 13) dX7_countsMissingAsHalf_9 (by decide) ?_
    cases h2
    exact rn_zret (pc := 13) (by decide) rfl dX7_countsMissingAsHalf_13
  · refine rn_ine_t (pc := 5) (tgt := 12) dX7_countsMissingAsHalf_5 (by decide) c2 ?_
    refine rn_iconst (pc := 12) (v := 0) dX7_countsMissingAsHalf_12 (by decide) ?_
    cases h2
    exact rn_zret (pc := 13) (by decide) rfl dX7_countsMissingAsHalf_13
theorem eX7_countsMissingAsHalf {l : Launch} {G : Gt} {d : Nat} {t0 : Nat} {u : Mem} {y : Int32} (h : fX7_countsMissingAsHalf t0 u = some y) : Ex l G iX7_countsMissingAsHalf d [rv (some t0)] u (.returned (some (.int y))) u := Ex.of (by decide +kernel) (by decide) (Nat.le_of_ble_eq_true rfl) rfl (tX7_countsMissingAsHalf h)
theorem btX1_fillRows_42 {l : Launch} {G : Gt} {d : Nat} {t0 : Nat} {i1 : Int32} {t2 : Nat} {s3 : Option Nat} {s4 : Int32} {u : Mem} {y : (Option Nat × Int32 × Mem) ⊕ (Int32 × Mem)} {o : Outcome} {u' : Mem} (h : bX1_fillRows_42 t0 i1 t2 s3 s4 u = some y) (k0 : ∀ s' : Option Nat × Int32 × Mem, y = .inl s' → Rn l G iX1_fillRows (d + 2) 42 [(0, rv (some t0)), (1, .int i1), (2, rv (some t2)), (3, rv s'.1), (4, .int s'.2.1)] [] s'.2.2 o u') (k1 : ∀ r : Int32 × Mem, y = .inr (r) → Rn l G iX1_fillRows (d + 2) 96 [(0, rv (some t0)), (1, .int i1), (2, rv (some t2)), (4, .int r.1)] [] r.2 o u') : Rn l G iX1_fillRows (d + 2) 42 [(0, rv (some t0)), (1, .int i1), (2, rv (some t2)), (3, rv s3), (4, .int s4)] [] u o u' := by
  unfold bX1_fillRows_42 at h
  refine rn_aload_n (pc := 42) 3 dX1_fillRows_42 rfl rfl ?_
  rcases if_elim h with ⟨c14, h1⟩ | ⟨c14, h1⟩
  · refine rn_ifnull_t (pc := 43) (tgt := 96) dX1_fillRows_43 (by decide) c14 ?_
    cases h1
    exact rn_sub [0, 1, 2, 4] rfl (k1 _ rfl)
  · refine rn_ifnull_f (pc := 43) dX1_fillRows_43 c14 ?_
    refine rn_aload_n (pc := 46) 3 dX1_fillRows_46 rfl rfl ?_
    obtain ⟨v15, hv15, h2⟩ := bnd_some h1
    refine rn_getI (pc := 47) (k := 2) okX3 (by decide) tw_622 rfl dX1_fillRows_47 hv15 ?_
    refine rn_iload (pc := 50) 4 dX1_fillRows_50 rfl ?_
    rcases if_elim h2 with ⟨c16, h3⟩ | ⟨c16, h3⟩
    · refine rn_ige_f (pc := 52) 88 dX1_fillRows_52 (by decide) c16 ?_
      refine rn_aload_n (pc := 55) 0 dX1_fillRows_55 rfl rfl ?_
      refine rn_iload_n (pc := 56) 1 dX1_fillRows_56 rfl rfl ?_
      refine rn_iload (pc := 57) 4 dX1_fillRows_57 rfl ?_
      refine rn_aload_n (pc := 59) 3 dX1_fillRows_59 rfl rfl ?_
      obtain ⟨v17, hv17, h4⟩ := bnd_some h3
      refine rn_getI (pc := 60) (k := 2) okX3 (by decide) tw_622 rfl dX1_fillRows_60 hv17 ?_
      refine rn_isub (pc := 63) dX1_fillRows_63 ?_
      refine rn_aload_n (pc := 64) 0 dX1_fillRows_64 rfl rfl ?_
      obtain ⟨v18, hv18, h5⟩ := bnd_some h4
      refine rn_getR (pc := 65) (k := 3) okX1 (by decide) tw_301 rfl dX1_fillRows_65 hv18 ?_
      refine rn_aload_n (pc := 68) 2 dX1_fillRows_68 rfl rfl ?_
      obtain ⟨v19, hv19, h6⟩ := bnd_some h5
      refine rn_getI (pc := 69) (k := 2) okX5 (by decide) tw_236 rfl dX1_fillRows_69 hv19 ?_
      refine rn_aload_n (pc := 72) 3 dX1_fillRows_72 rfl rfl ?_
      obtain ⟨v20, hv20, h7⟩ := bnd_some h6
      refine rn_getI (pc := 73) (k := 3) okX3 (by decide) tw_626 rfl dX1_fillRows_73 hv20 ?_
      obtain ⟨b21, hb21, h8⟩ := bnd_some h7
      obtain ⟨qb21, kb21⟩ := chk_elim hb21
      subst qb21
      obtain ⟨v22, hv22, h9⟩ := bnd_some h8
      refine rn_callV (pc := 76) (n := 2) (As := [.int v19, .int v20]) (rest := [.int (s4 - v17), .int i1, rv (some t0)]) (eX7_cost (d := d + 1) hv22) (by omega) okX7 kb21 tw_684 tw_71 tw_681 tw_682 tw_683 (by decide +kernel) rfl (Nat.le_of_ble_eq_true rfl) dX1_fillRows_76 rfl ?_
      obtain ⟨b23, hb23, h10⟩ := bnd_some h9
      obtain ⟨qb23, kb23⟩ := chk_elim hb23
      cases qb23
      obtain ⟨u24, hu24, h11⟩ := bnd_some h10
      refine rn_callV (pc := 79) (n := 3) (As := [.int i1, .int (s4 - v17), .int v22]) (rest := []) (eX1_addRows (d := d + 1) hu24) (by omega) okX1 kb23 tw_687 tw_74 tw_685 tw_686 tw_13 (by decide +kernel) rfl (Nat.le_of_ble_eq_true rfl) dX1_fillRows_79 rfl ?_
      refine rn_aload_n (pc := 82) 3 dX1_fillRows_82 rfl rfl ?_
      obtain ⟨v25, hv25, h12⟩ := bnd_some h11
      refine rn_getI (pc := 83) (k := 2) okX3 (by decide) tw_622 rfl dX1_fillRows_83 hv25 ?_
      refine rn_istore (pc := 86) (lv' := [(4, .int v25), (0, rv (some t0)), (1, .int i1), (2, rv (some t2)), (3, rv s3)]) dX1_fillRows_86 (by decide) (by generalize s3 = q; cases q <;> rfl) ?_
      refine rn_aload_n (pc := 88) 4 dX1_fillRows_88 rfl rfl ?_
      obtain ⟨v26, hv26, h13⟩ := bnd_some h12
      refine rn_getR (pc := 89) (k := 4) okX3 (by decide) tw_630 rfl dX1_fillRows_89 hv26 ?_
      refine rn_astore_n (pc := 92) (lv' := [(3, rv v26), (4, .int v25), (0, rv (some t0)), (1, .int i1), (2, rv (some t2))]) dX1_fillRows_92 rfl (by decide) rfl ?_
      refine rn_goto (pc := 93) (tgt := 42) dX1_fillRows_93 (by decide) ?_
      cases h13
      exact rn_sub [2, 3, 4, 0, 1] rfl (k0 _ rfl)
    · refine rn_ige_t (pc := 52) (tgt := 88) dX1_fillRows_52 (by decide) c16 ?_
      refine rn_aload_n (pc := 88) 3 dX1_fillRows_88 rfl rfl ?_
      obtain ⟨v27, hv27, h14⟩ := bnd_some h3
      refine rn_getR (pc := 89) (k := 4) okX3 (by decide) tw_630 rfl dX1_fillRows_89 hv27 ?_
      refine rn_astore_n (pc := 92) (lv' := [(3, rv v27), (0, rv (some t0)), (1, .int i1), (2, rv (some t2)), (4, .int s4)]) dX1_fillRows_92 rfl (by decide) rfl ?_
      refine rn_goto (pc := 93) (tgt := 42) dX1_fillRows_93 (by decide) ?_
      cases h14
      exact rn_sub [1, 2, 3, 0, 4] rfl (k0 _ rfl)
theorem lX1_fillRows_42 {l : Launch} {G : Gt} {d : Nat} {t0 : Nat} {i1 : Int32} {t2 : Nat} {N : Nat} {s0 : Option Nat × Int32 × Mem} {r : Int32 × Mem} {o : Outcome} {u' : Mem} (h : lp (fun s : Option Nat × Int32 × Mem => bX1_fillRows_42 t0 i1 t2 s.1 s.2.1 s.2.2) N s0 = some r) (k1 : Rn l G iX1_fillRows (d + 2) 96 [(0, rv (some t0)), (1, .int i1), (2, rv (some t2)), (4, .int r.1)] [] r.2 o u') : Rn l G iX1_fillRows (d + 2) 42 [(0, rv (some t0)), (1, .int i1), (2, rv (some t2)), (3, rv s0.1), (4, .int s0.2.1)] [] s0.2.2 o u' :=
  lp_run (P := fun s : Option Nat × Int32 × Mem => Rn l G iX1_fillRows (d + 2) 42 [(0, rv (some t0)), (1, .int i1), (2, rv (some t2)), (3, rv s.1), (4, .int s.2.1)] [] s.2.2 o u') (E := fun r => Rn l G iX1_fillRows (d + 2) 96 [(0, rv (some t0)), (1, .int i1), (2, rv (some t2)), (4, .int r.1)] [] r.2 o u') (fun s y hy k0 kE => btX1_fillRows_42 hy (fun s' e => k0 s' e) (fun r e => kE r e)) N s0 r h k1
theorem tX1_fillRows {l : Launch} {G : Gt} {d : Nat} {t0 : Nat} {p1 : Int32} {p2 : Option Nat} {u : Mem} {y : Mem} (h : fX1_fillRows t0 p1 p2 u = some y) : Rn l G iX1_fillRows (d + 2) 0 [(0, rv (some t0)), (1, .int p1), (2, rv p2)] [] u (.returned none) y := by
  unfold fX1_fillRows at h
  refine rn_aload_n (pc := 0) 0 dX1_fillRows_0 rfl rfl ?_
  obtain ⟨v1, hv1, h1⟩ := bnd_some h
  refine rn_getR (pc := 1) (k := 0) okX1 (by decide) tw_294 rfl dX1_fillRows_1 hv1 ?_
  refine rn_iload_n (pc := 4) 1 dX1_fillRows_4 rfl rfl ?_
  refine rn_iconst (pc := 5) (v := 0) dX1_fillRows_5 (by decide) ?_
  obtain ⟨u2, hu2, h2⟩ := bnd_some h1
  refine rn_iast (pc := 6) dX1_fillRows_6 hu2 ?_
  refine rn_aload_n (pc := 7) 0 dX1_fillRows_7 rfl rfl ?_
  obtain ⟨v3, hv3, h3⟩ := bnd_some h2
  refine rn_getR (pc := 8) (k := 1) okX1 (by decide) tw_297 rfl dX1_fillRows_8 hv3 ?_
  refine rn_iload_n (pc := 11) 1 dX1_fillRows_11 rfl rfl ?_
  refine rn_iconst (pc := 12) (v := 0) dX1_fillRows_12 (by decide) ?_
  obtain ⟨u4, hu4, h4⟩ := bnd_some h3
  refine rn_iast (pc := 13) dX1_fillRows_13 hu4 ?_
  refine rn_aload_n (pc := 14) 0 dX1_fillRows_14 rfl rfl ?_
  obtain ⟨v5, hv5, h5⟩ := bnd_some h4
  refine rn_getR (pc := 15) (k := 2) okX1 (by decide) tw_300 rfl dX1_fillRows_15 hv5 ?_
  obtain ⟨v6, hv6, h6⟩ := bnd_some h5
  refine rn_getR (pc := 18) (k := 1) okX0 (by decide) tw_260 rfl dX1_fillRows_18 hv6 ?_
  refine rn_iload_n (pc := 21) 1 dX1_fillRows_21 rfl rfl ?_
  obtain ⟨v7, hv7, h7⟩ := bnd_some h6
  refine rn_aald25 (pc := 22) dX1_fillRows_22 hv7 ?_
  refine rn_astore_n (pc := 23) (lv' := [(3, rv v7), (0, rv (some t0)), (1, .int p1), (2, rv p2)]) dX1_fillRows_23 rfl (by decide) (by generalize p2 = q; cases q <;> rfl) ?_
  refine rn_aload_n (pc := 24) 0 dX1_fillRows_24 rfl rfl ?_
  rcases if_elim h7 with ⟨c8, h8⟩ | ⟨c8, h8⟩
  · refine rn_ifnull_t (pc := 25) (tgt := 35) dX1_fillRows_25 (by decide) c8 ?_
    cases h8
    exact rn_vret (pc := 35) rfl dX1_fillRows_35
  · refine rn_ifnull_f (pc := 25) dX1_fillRows_25 c8 ?_
    refine rn_aload_n (pc := 28) 3 dX1_fillRows_28 rfl rfl ?_
    obtain ⟨b9, hb9, h9⟩ := bnd_some h8
    obtain ⟨qb9, kb9⟩ := chk_elim hb9
    subst qb9
    obtain ⟨v10, hv10, h10⟩ := bnd_some h9
    refine rn_callV (pc := 29) (n := 0) (As := []) (rest := []) (eX5_isSettled (d := d + 1) hv10) (by omega) okX5 kb9 tw_672 tw_73 tw_669 tw_670 tw_671 (by decide +kernel) rfl (Nat.le_of_ble_eq_true rfl) dX1_fillRows_29 rfl ?_
    rcases if_elim h10 with ⟨c11, h11⟩ | ⟨c11, h11⟩
    · refine rn_zne_f (pc := 32) 36 dX1_fillRows_32 (by decide) c11 ?_
      cases h11
      exact rn_vret (pc := 35) rfl dX1_fillRows_35
    · refine rn_zne_t (pc := 32) (tgt := 36) dX1_fillRows_32 (by decide) c11 ?_
      refine rn_aload_n (pc := 36) 3 dX1_fillRows_36 rfl rfl ?_
      obtain ⟨b12, hb12, h12⟩ := bnd_some h11
      obtain ⟨qb12, kb12⟩ := chk_elim hb12
      cases qb12
      obtain ⟨v13, hv13, h13⟩ := bnd_some h12
      refine rn_callV (pc := 37) (n := 0) (As := []) (rest := []) (eX5_endOfRows (d := d + 0) hv13) (by omega) okX5 kb12 tw_676 tw_73 tw_673 tw_674 tw_675 (by decide +kernel) rfl (Nat.le_of_ble_eq_true rfl) dX1_fillRows_37 rfl ?_
      refine rn_istore (pc := 40) (lv' := [(4, .int v13), (3, rv v7), (0, rv (some t0)), (1, .int p1), (2, rv (some b9))]) dX1_fillRows_40 (by decide) (by generalize v7 = q; cases q <;> rfl) ?_
      obtain ⟨r28, hr28, h14⟩ := bnd_some h13
      refine rn_sub [2, 3, 4, 1, 0] rfl (lX1_fillRows_42 hr28 ?_)
      refine rn_aload_n (pc := 96) 0 dX1_fillRows_96 rfl rfl ?_
      obtain ⟨v29, hv29, h15⟩ := bnd_some h14
      refine rn_getR (pc := 97) (k := 3) okX1 (by decide) tw_301 rfl dX1_fillRows_97 hv29 ?_
      obtain ⟨b30, hb30, h16⟩ := bnd_some h15
      obtain ⟨qb30, kb30⟩ := chk_elim hb30
      subst qb30
      obtain ⟨v31, hv31, h17⟩ := bnd_some h16
      refine rn_callV (pc := 100) (n := 0) (As := []) (rest := []) (eX7_countsMissingAsHalf (d := d + 1) hv31) (by omega) okX7 kb30 tw_691 tw_71 tw_688 tw_689 tw_690 (by decide +kernel) rfl (Nat.le_of_ble_eq_true rfl) dX1_fillRows_100 rfl ?_
      rcases if_elim h17 with ⟨c32, h18⟩ | ⟨c32, h18⟩
      · refine rn_zeq_t (pc := 103) (tgt := 130) dX1_fillRows_103 (by decide) c32 ?_
        cases h18
        exact rn_vret (pc := 130) rfl dX1_fillRows_130
      · refine rn_zeq_f (pc := 103) 130 dX1_fillRows_103 (by decide) c32 ?_
        refine rn_aload_n (pc := 106) 0 dX1_fillRows_106 rfl rfl ?_
        refine rn_iload_n (pc := 107) 1 dX1_fillRows_107 rfl rfl ?_
        refine rn_iload (pc := 108) 3 dX1_fillRows_108 rfl ?_
        refine rn_aload_n (pc := 110) 2 dX1_fillRows_110 rfl rfl ?_
        obtain ⟨v33, hv33, h19⟩ := bnd_some h18
        refine rn_getI (pc := 111) (k := 0) okX5 (by decide) tw_229 rfl dX1_fillRows_111 hv33 ?_
        refine rn_isub (pc := 114) dX1_fillRows_114 ?_
        refine rn_aload_n (pc := 115) 0 dX1_fillRows_115 rfl rfl ?_
        obtain ⟨v34, hv34, h20⟩ := bnd_some h19
        refine rn_getR (pc := 116) (k := 3) okX1 (by decide) tw_301 rfl dX1_fillRows_116 hv34 ?_
        refine rn_aload_n (pc := 119) 2 dX1_fillRows_119 rfl rfl ?_
        obtain ⟨v35, hv35, h21⟩ := bnd_some h20
        refine rn_getI (pc := 120) (k := 2) okX5 (by decide) tw_236 rfl dX1_fillRows_120 hv35 ?_
        refine rn_iconst (pc := 123) (v := 5) dX1_fillRows_123 (by decide) ?_
        obtain ⟨b36, hb36, h22⟩ := bnd_some h21
        obtain ⟨qb36, kb36⟩ := chk_elim hb36
        subst qb36
        obtain ⟨v37, hv37, h23⟩ := bnd_some h22
        refine rn_callV (pc := 124) (n := 2) (As := [.int v35, .int (5 : Int32)]) (rest := [.int (r28.1 - v33), .int p1, rv (some t0)]) (eX7_cost (d := d + 1) hv37) (by omega) okX7 kb36 tw_684 tw_71 tw_681 tw_682 tw_683 (by decide +kernel) rfl (Nat.le_of_ble_eq_true rfl) dX1_fillRows_124 rfl ?_
        obtain ⟨b38, hb38, h24⟩ := bnd_some h23
        obtain ⟨qb38, kb38⟩ := chk_elim hb38
        cases qb38
        obtain ⟨u39, hu39, h25⟩ := bnd_some h24
        refine rn_callV (pc := 127) (n := 3) (As := [.int p1, .int (r28.1 - v33), .int v37]) (rest := []) (eX1_addRows (d := d + 1) hu39) (by omega) okX1 kb38 tw_687 tw_74 tw_685 tw_686 tw_13 (by decide +kernel) rfl (Nat.le_of_ble_eq_true rfl) dX1_fillRows_127 rfl ?_
        cases h25
        exact rn_vret (pc := 130) rfl dX1_fillRows_130
theorem eX1_fillRows {l : Launch} {G : Gt} {d : Nat} {t0 : Nat} {p1 : Int32} {p2 : Option Nat} {u : Mem} {y : Mem} (h : fX1_fillRows t0 p1 p2 u = some y) : Ex l G iX1_fillRows (d + 2) [rv (some t0), .int p1, rv p2] u (.returned none) y := Ex.of (by decide +kernel) (by decide) (by cases p2 <;> exact Nat.le_of_ble_eq_true rfl) (by cases p2 <;> rfl) (tX1_fillRows h)
theorem tX1_doesCount {l : Launch} {G : Gt} {d : Nat} {t0 : Nat} {p1 : Int32} {u : Mem} {y : Int32} (h : fX1_doesCount t0 p1 u = some y) : Rn l G iX1_doesCount d 0 [(0, rv (some t0)), (1, .int p1)] [] u (.returned (some (.int y))) u := by
  unfold fX1_doesCount at h
  refine rn_aload_n (pc := 0) 0 dX1_doesCount_0 rfl rfl ?_
  obtain ⟨v1, hv1, h1⟩ := bnd_some h
  refine rn_getR (pc := 1) (k := 0) okX1 (by decide) tw_294 rfl dX1_doesCount_1 hv1 ?_
  refine rn_iload_n (pc := 4) 1 dX1_doesCount_4 rfl rfl ?_
  obtain ⟨v2, hv2, h2⟩ := bnd_some h1
  refine rn_iald (pc := 5) dX1_doesCount_5 hv2 ?_
  refine rn_aload_n (pc := 6) 0 dX1_doesCount_6 rfl rfl ?_
  obtain ⟨v3, hv3, h3⟩ := bnd_some h2
  refine rn_getR (pc := 7) (k := 3) okX1 (by decide) tw_301 rfl dX1_doesCount_7 hv3 ?_
  obtain ⟨v4, hv4, h4⟩ := bnd_some h3
  refine rn_getI (pc := 10) (k := 6) okX7 (by decide) tw_154 rfl dX1_doesCount_10 hv4 ?_
  rcases if_elim h4 with ⟨c5, h5⟩ | ⟨c5, h5⟩
  · refine rn_ilt_t (pc := 13) (tgt := 20) dX1_doesCount_13 (by decide) c5 ?_
    refine rn_iconst (pc := 20) (v := 0) dX1_doesCount_20 (by decide) ?_
    cases h5
    exact rn_zret (pc := 21) (by decide) rfl dX1_doesCount_21
  · refine rn_ilt_f (pc := 13) 20 dX1_doesCount_13 (by decide) c5 ?_
    refine rn_iconst (pc := 16) (v := 1) dX1_doesCount_16 (by decide) ?_
    refine rn_goto (pc := 17) (tgt := 21) dX1_doesCount_17 (by decide) ?_
    cases h5
    exact rn_zret (pc := 21) (by decide) rfl dX1_doesCount_21
theorem eX1_doesCount {l : Launch} {G : Gt} {d : Nat} {t0 : Nat} {p1 : Int32} {u : Mem} {y : Int32} (h : fX1_doesCount t0 p1 u = some y) : Ex l G iX1_doesCount d [rv (some t0), .int p1] u (.returned (some (.int y))) u := Ex.of (by decide +kernel) (by decide) (Nat.le_of_ble_eq_true rfl) rfl (tX1_doesCount h)
theorem tX1_addToTotal {l : Launch} {G : Gt} {d : Nat} {t0 : Nat} {p1 : Int32} {p2 : Int32} {u : Mem} {y : Mem} (h : fX1_addToTotal t0 p1 p2 u = some y) : Rn l G iX1_addToTotal (d + 1) 0 [(0, rv (some t0)), (1, .int p1), (2, .int p2)] [] u (.returned none) y := by
  unfold fX1_addToTotal at h
  refine rn_aload_n (pc := 0) 0 dX1_addToTotal_0 rfl rfl ?_
  refine rn_iload_n (pc := 1) 2 dX1_addToTotal_1 rfl rfl ?_
  obtain ⟨b1, hb1, h1⟩ := bnd_some h
  obtain ⟨qb1, kb1⟩ := chk_elim hb1
  cases qb1
  obtain ⟨v2, hv2, h2⟩ := bnd_some h1
  refine rn_callV (pc := 2) (n := 1) (As := [.int p2]) (rest := []) (eX1_doesCount (d := d + 0) hv2) (by omega) okX1 kb1 tw_698 tw_74 tw_695 tw_696 tw_697 (by decide +kernel) rfl (Nat.le_of_ble_eq_true rfl) dX1_addToTotal_2 rfl ?_
  rcases if_elim h2 with ⟨c3, h3⟩ | ⟨c3, h3⟩
  · refine rn_zeq_t (pc := 5) (tgt := 38) dX1_addToTotal_5 (by decide) c3 ?_
    cases h3
    exact rn_vret (pc := 38) rfl dX1_addToTotal_38
  · refine rn_zeq_f (pc := 5) 38 dX1_addToTotal_5 (by decide) c3 ?_
    refine rn_aload_n (pc := 8) 0 dX1_addToTotal_8 rfl rfl ?_
    obtain ⟨v4, hv4, h4⟩ := bnd_some h3
    refine rn_getR (pc := 9) (k := 4) okX1 (by decide) tw_302 rfl dX1_addToTotal_9 hv4 ?_
    refine rn_iload_n (pc := 12) 1 dX1_addToTotal_12 rfl rfl ?_
    refine rn_dup2 (pc := 13) dX1_addToTotal_13 rfl (rv_cat _) ?_
    obtain ⟨v5, hv5, h5⟩ := bnd_some h4
    refine rn_iald (pc := 14) dX1_addToTotal_14 hv5 ?_
    refine rn_aload_n (pc := 15) 0 dX1_addToTotal_15 rfl rfl ?_
    obtain ⟨v6, hv6, h6⟩ := bnd_some h5
    refine rn_getR (pc := 16) (k := 0) okX1 (by decide) tw_294 rfl dX1_addToTotal_16 hv6 ?_
    refine rn_iload_n (pc := 19) 2 dX1_addToTotal_19 rfl rfl ?_
    obtain ⟨v7, hv7, h7⟩ := bnd_some h6
    refine rn_iald (pc := 20) dX1_addToTotal_20 hv7 ?_
    refine rn_iadd (pc := 21) dX1_addToTotal_21 ?_
    obtain ⟨u8, hu8, h8⟩ := bnd_some h7
    refine rn_iast (pc := 22) dX1_addToTotal_22 hu8 ?_
    refine rn_aload_n (pc := 23) 0 dX1_addToTotal_23 rfl rfl ?_
    obtain ⟨v9, hv9, h9⟩ := bnd_some h8
    refine rn_getR (pc := 24) (k := 5) okX1 (by decide) tw_303 rfl dX1_addToTotal_24 hv9 ?_
    refine rn_iload_n (pc := 27) 1 dX1_addToTotal_27 rfl rfl ?_
    refine rn_dup2 (pc := 28) dX1_addToTotal_28 rfl (rv_cat _) ?_
    obtain ⟨v10, hv10, h10⟩ := bnd_some h9
    refine rn_iald (pc := 29) dX1_addToTotal_29 hv10 ?_
    refine rn_aload_n (pc := 30) 0 dX1_addToTotal_30 rfl rfl ?_
    obtain ⟨v11, hv11, h11⟩ := bnd_some h10
    refine rn_getR (pc := 31) (k := 1) okX1 (by decide) tw_297 rfl dX1_addToTotal_31 hv11 ?_
    refine rn_iload_n (pc := 34) 2 dX1_addToTotal_34 rfl rfl ?_
    obtain ⟨v12, hv12, h12⟩ := bnd_some h11
    refine rn_iald (pc := 35) dX1_addToTotal_35 hv12 ?_
    refine rn_iadd (pc := 36) dX1_addToTotal_36 ?_
    obtain ⟨u13, hu13, h13⟩ := bnd_some h12
    refine rn_iast (pc := 37) dX1_addToTotal_37 hu13 ?_
    cases h13
    exact rn_vret (pc := 38) rfl dX1_addToTotal_38
theorem eX1_addToTotal {l : Launch} {G : Gt} {d : Nat} {t0 : Nat} {p1 : Int32} {p2 : Int32} {u : Mem} {y : Mem} (h : fX1_addToTotal t0 p1 p2 u = some y) : Ex l G iX1_addToTotal (d + 1) [rv (some t0), .int p1, .int p2] u (.returned none) y := Ex.of (by decide +kernel) (by decide) (Nat.le_of_ble_eq_true rfl) rfl (tX1_addToTotal h)
theorem btX1_refresh_50 {l : Launch} {G : Gt} {d : Nat} {t0 : Nat} {i1 : Int32} {s2 : Int32} {u : Mem} {y : (Int32 × Mem) ⊕ (Mem)} {o : Outcome} {u' : Mem} (h : bX1_refresh_50 t0 i1 s2 u = some y) (k0 : ∀ s' : Int32 × Mem, y = .inl s' → Rn l G iX1_refresh (d + 3) 50 [(0, rv (some t0)), (1, .int i1), (2, .int s'.1)] [] s'.2 o u') (k1 : ∀ r : Mem, y = .inr (r) → Rn l G iX1_refresh (d + 3) 95 [(0, rv (some t0)), (1, .int i1)] [] r o u') : Rn l G iX1_refresh (d + 3) 50 [(0, rv (some t0)), (1, .int i1), (2, .int s2)] [] u o u' := by
  unfold bX1_refresh_50 at h
  refine rn_iload_n (pc := 50) 2 dX1_refresh_50 rfl rfl ?_
  refine rn_aload_n (pc := 51) 0 dX1_refresh_51 rfl rfl ?_
  obtain ⟨v13, hv13, h1⟩ := bnd_some h
  refine rn_getR (pc := 52) (k := 2) okX1 (by decide) tw_300 rfl dX1_refresh_52 hv13 ?_
  obtain ⟨v14, hv14, h2⟩ := bnd_some h1
  refine rn_getI (pc := 55) (k := 3) okX0 (by decide) tw_265 rfl dX1_refresh_55 hv14 ?_
  rcases if_elim h2 with ⟨c15, h3⟩ | ⟨c15, h3⟩
  · refine rn_ige_f (pc := 58) 95 dX1_refresh_58 (by decide) c15 ?_
    refine rn_aload_n (pc := 61) 0 dX1_refresh_61 rfl rfl ?_
    refine rn_iload_n (pc := 62) 1 dX1_refresh_62 rfl rfl ?_
    refine rn_iload_n (pc := 63) 2 dX1_refresh_63 rfl rfl ?_
    obtain ⟨v16, hv16, h4⟩ := bnd_some h3
    refine rn_callSN (pc := 64) (host := "ForeBook") (n := 2) (As := [.int i1, .int s2]) (rest := [rv (some t0)]) (eX10_cell (d := d + 2) hv16) (by omega) tw_604 tw_68 (by decide +kernel) tw_603 (by decide +kernel) rfl (Nat.le_of_ble_eq_true rfl) dX1_refresh_64 rfl ?_
    refine rn_aload_n (pc := 67) 0 dX1_refresh_67 rfl rfl ?_
    obtain ⟨v17, hv17, h5⟩ := bnd_some h4
    refine rn_getR (pc := 68) (k := 2) okX1 (by decide) tw_300 rfl dX1_refresh_68 hv17 ?_
    obtain ⟨v18, hv18, h6⟩ := bnd_some h5
    refine rn_getR (pc := 71) (k := 0) okX0 (by decide) tw_256 rfl dX1_refresh_71 hv18 ?_
    refine rn_iload_n (pc := 74) 2 dX1_refresh_74 rfl rfl ?_
    obtain ⟨v19, hv19, h7⟩ := bnd_some h6
    refine rn_aald24 (pc := 75) dX1_refresh_75 hv19 ?_
    obtain ⟨b20, hb20, h8⟩ := bnd_some h7
    obtain ⟨qb20, kb20⟩ := chk_elim hb20
    cases qb20
    obtain ⟨u21, hu21, h9⟩ := bnd_some h8
    refine rn_callV (pc := 76) (n := 2) (As := [.int v16, rv v19]) (rest := []) (eX1_fillRows (d := d + 0) hu21) (by omega) okX1 kb20 tw_668 tw_74 tw_666 tw_667 tw_12 (by decide +kernel) rfl (Nat.le_of_ble_eq_true rfl) dX1_refresh_76 rfl ?_
    refine rn_aload_n (pc := 79) 0 dX1_refresh_79 rfl rfl ?_
    refine rn_iload_n (pc := 80) 1 dX1_refresh_80 rfl rfl ?_
    refine rn_iload_n (pc := 81) 1 dX1_refresh_81 rfl rfl ?_
    refine rn_iload_n (pc := 82) 2 dX1_refresh_82 rfl rfl ?_
    obtain ⟨v22, hv22, h10⟩ := bnd_some h9
    refine rn_callSN (pc := 83) (host := "ForeBook") (n := 2) (As := [.int i1, .int s2]) (rest := [.int i1, rv (some t0)]) (eX10_cell (d := d + 2) hv22) (by omega) tw_604 tw_68 (by decide +kernel) tw_603 (by decide +kernel) rfl (Nat.le_of_ble_eq_true rfl) dX1_refresh_83 rfl ?_
    obtain ⟨b23, hb23, h11⟩ := bnd_some h10
    obtain ⟨qb23, kb23⟩ := chk_elim hb23
    cases qb23
    obtain ⟨u24, hu24, h12⟩ := bnd_some h11
    refine rn_callV (pc := 86) (n := 2) (As := [.int i1, .int v22]) (rest := []) (eX1_addToTotal (d := d + 1) hu24) (by omega) okX1 kb23 tw_694 tw_74 tw_692 tw_693 tw_14 (by decide +kernel) rfl (Nat.le_of_ble_eq_true rfl) dX1_refresh_86 rfl ?_
    obtain ⟨x25, ex25, h13⟩ := nm_elim h12
    refine rn_iinc (pc := 89) (v := x25) (lv' := [(2, .int x25), (0, rv (some t0)), (1, .int i1)]) 2 dX1_refresh_89 rfl (by rw [ex25]; rfl) (by decide) rfl ?_
    refine rn_goto (pc := 92) (tgt := 50) dX1_refresh_92 (by decide) ?_
    cases h13
    exact rn_sub [1, 2, 0] rfl (k0 _ rfl)
  · refine rn_ige_t (pc := 58) (tgt := 95) dX1_refresh_58 (by decide) c15 ?_
    cases h3
    exact rn_sub [0, 1] rfl (k1 _ rfl)
theorem lX1_refresh_50 {l : Launch} {G : Gt} {d : Nat} {t0 : Nat} {i1 : Int32} {N : Nat} {s0 : Int32 × Mem} {r : Mem} {o : Outcome} {u' : Mem} (h : lp (fun s : Int32 × Mem => bX1_refresh_50 t0 i1 s.1 s.2) N s0 = some r) (k1 : Rn l G iX1_refresh (d + 3) 95 [(0, rv (some t0)), (1, .int i1)] [] r o u') : Rn l G iX1_refresh (d + 3) 50 [(0, rv (some t0)), (1, .int i1), (2, .int s0.1)] [] s0.2 o u' :=
  lp_run (P := fun s : Int32 × Mem => Rn l G iX1_refresh (d + 3) 50 [(0, rv (some t0)), (1, .int i1), (2, .int s.1)] [] s.2 o u') (E := fun r => Rn l G iX1_refresh (d + 3) 95 [(0, rv (some t0)), (1, .int i1)] [] r o u') (fun s y hy k0 kE => btX1_refresh_50 hy (fun s' e => k0 s' e) (fun r e => kE r e)) N s0 r h k1
theorem btX1_refresh_28 {l : Launch} {G : Gt} {d : Nat} {t0 : Nat} {s1 : Int32} {u : Mem} {y : (Int32 × Mem) ⊕ (Mem)} {o : Outcome} {u' : Mem} (h : bX1_refresh_28 t0 s1 u = some y) (k0 : ∀ s' : Int32 × Mem, y = .inl s' → Rn l G iX1_refresh (d + 3) 28 [(0, rv (some t0)), (1, .int s'.1)] [] s'.2 o u') (k1 : ∀ r : Mem, y = .inr (r) → Rn l G iX1_refresh (d + 3) 101 [] [] r o u') : Rn l G iX1_refresh (d + 3) 28 [(0, rv (some t0)), (1, .int s1)] [] u o u' := by
  unfold bX1_refresh_28 at h
  refine rn_iload_n (pc := 28) 1 dX1_refresh_28 rfl rfl ?_
  refine rn_bipush (pc := 29) (v := 20) dX1_refresh_29 (by decide) ?_
  rcases if_elim h with ⟨c8, h1⟩ | ⟨c8, h1⟩
  · refine rn_ige_f (pc := 31) 101 dX1_refresh_31 (by decide) c8 ?_
    refine rn_aload_n (pc := 34) 0 dX1_refresh_34 rfl rfl ?_
    obtain ⟨v9, hv9, h2⟩ := bnd_some h1
    refine rn_getR (pc := 35) (k := 4) okX1 (by decide) tw_302 rfl dX1_refresh_35 hv9 ?_
    refine rn_iload_n (pc := 38) 1 dX1_refresh_38 rfl rfl ?_
    refine rn_iconst (pc := 39) (v := 0) dX1_refresh_39 (by decide) ?_
    obtain ⟨u10, hu10, h3⟩ := bnd_some h2
    refine rn_iast (pc := 40) dX1_refresh_40 hu10 ?_
    refine rn_aload_n (pc := 41) 0 dX1_refresh_41 rfl rfl ?_
    obtain ⟨v11, hv11, h4⟩ := bnd_some h3
    refine rn_getR (pc := 42) (k := 5) okX1 (by decide) tw_303 rfl dX1_refresh_42 hv11 ?_
    refine rn_iload_n (pc := 45) 1 dX1_refresh_45 rfl rfl ?_
    refine rn_iconst (pc := 46) (v := 0) dX1_refresh_46 (by decide) ?_
    obtain ⟨u12, hu12, h5⟩ := bnd_some h4
    refine rn_iast (pc := 47) dX1_refresh_47 hu12 ?_
    refine rn_iconst (pc := 48) (v := 0) dX1_refresh_48 (by decide) ?_
    refine rn_istore_n (pc := 49) (lv' := [(2, .int (0 : Int32)), (0, rv (some t0)), (1, .int s1)]) dX1_refresh_49 rfl (by decide) rfl ?_
    obtain ⟨r26, hr26, h6⟩ := bnd_some h5
    refine rn_sub [1, 2, 0] rfl (lX1_refresh_50 hr26 ?_)
    obtain ⟨x27, ex27, h7⟩ := nm_elim h6
    refine rn_iinc (pc := 95) (v := x27) (lv' := [(1, .int x27), (0, rv (some t0))]) 1 dX1_refresh_95 rfl (by rw [ex27]; rfl) (by decide) rfl ?_
    refine rn_goto (pc := 98) (tgt := 28) dX1_refresh_98 (by decide) ?_
    cases h7
    exact rn_sub [1, 0] rfl (k0 _ rfl)
  · refine rn_ige_t (pc := 31) (tgt := 101) dX1_refresh_31 (by decide) c8 ?_
    cases h1
    exact rn_sub [] rfl (k1 _ rfl)
theorem lX1_refresh_28 {l : Launch} {G : Gt} {d : Nat} {t0 : Nat} {N : Nat} {s0 : Int32 × Mem} {r : Mem} {o : Outcome} {u' : Mem} (h : lp (fun s : Int32 × Mem => bX1_refresh_28 t0 s.1 s.2) N s0 = some r) (k1 : Rn l G iX1_refresh (d + 3) 101 [] [] r o u') : Rn l G iX1_refresh (d + 3) 28 [(0, rv (some t0)), (1, .int s0.1)] [] s0.2 o u' :=
  lp_run (P := fun s : Int32 × Mem => Rn l G iX1_refresh (d + 3) 28 [(0, rv (some t0)), (1, .int s.1)] [] s.2 o u') (E := fun r => Rn l G iX1_refresh (d + 3) 101 [] [] r o u') (fun s y hy k0 kE => btX1_refresh_28 hy (fun s' e => k0 s' e) (fun r e => kE r e)) N s0 r h k1
theorem tX1_refresh {l : Launch} {G : Gt} {d : Nat} {t0 : Nat} {u : Mem} {y : Mem} (h : fX1_refresh t0 u = some y) : Rn l G iX1_refresh (d + 3) 0 [(0, rv (some t0))] [] u (.returned none) y := by
  unfold fX1_refresh at h
  refine rn_aload_n (pc := 0) 0 dX1_refresh_0 rfl rfl ?_
  obtain ⟨v1, hv1, h1⟩ := bnd_some h
  refine rn_getI (pc := 1) (k := 6) okX1 (by decide) tw_304 rfl dX1_refresh_1 hv1 ?_
  refine rn_aload_n (pc := 4) 0 dX1_refresh_4 rfl rfl ?_
  obtain ⟨v2, hv2, h2⟩ := bnd_some h1
  refine rn_getR (pc := 5) (k := 2) okX1 (by decide) tw_300 rfl dX1_refresh_5 hv2 ?_
  obtain ⟨v3, hv3, h3⟩ := bnd_some h2
  refine rn_getI (pc := 8) (k := 5) okX0 (by decide) tw_271 rfl dX1_refresh_8 hv3 ?_
  rcases if_elim h3 with ⟨c4, h4⟩ | ⟨c4, h4⟩
  · refine rn_ine_f (pc := 11) 15 dX1_refresh_11 (by decide) c4 ?_
    cases h4
    exact rn_vret (pc := 14) rfl dX1_refresh_14
  · refine rn_ine_t (pc := 11) (tgt := 15) dX1_refresh_11 (by decide) c4 ?_
    refine rn_aload_n (pc := 15) 0 dX1_refresh_15 rfl rfl ?_
    refine rn_aload_n (pc := 16) 0 dX1_refresh_16 rfl rfl ?_
    obtain ⟨v5, hv5, h5⟩ := bnd_some h4
    refine rn_getR (pc := 17) (k := 2) okX1 (by decide) tw_300 rfl dX1_refresh_17 hv5 ?_
    obtain ⟨v6, hv6, h6⟩ := bnd_some h5
    refine rn_getI (pc := 20) (k := 5) okX0 (by decide) tw_271 rfl dX1_refresh_20 hv6 ?_
    obtain ⟨u7, hu7, h7⟩ := bnd_some h6
    refine rn_putI (pc := 23) (k := 6) okX1 (by decide) tw_304 (Or.inl rfl) (Or.inl rfl) dX1_refresh_23 hu7 ?_
    refine rn_iconst (pc := 26) (v := 0) dX1_refresh_26 (by decide) ?_
    refine rn_istore_n (pc := 27) (lv' := [(1, .int (0 : Int32)), (0, rv (some t0))]) dX1_refresh_27 rfl (by decide) rfl ?_
    obtain ⟨r28, hr28, h8⟩ := bnd_some h7
    refine rn_sub [1, 0] rfl (lX1_refresh_28 hr28 ?_)
    cases h8
    exact rn_vret (pc := 101) rfl dX1_refresh_101
theorem eX1_refresh {l : Launch} {G : Gt} {d : Nat} {t0 : Nat} {u : Mem} {y : Mem} (h : fX1_refresh t0 u = some y) : Ex l G iX1_refresh (d + 3) [rv (some t0)] u (.returned none) y := Ex.of (by decide +kernel) (by decide) (Nat.le_of_ble_eq_true rfl) rfl (tX1_refresh h)
theorem jtX1_costOnDay_31 {l : Launch} {G : Gt} {d : Nat} {t0 : Nat} {p2 : Int32} {p4 : Int32} {u : Mem} {y : Int32} (h : jX1_costOnDay_31 t0 p2 p4 u = some y) : Rn l G iX1_costOnDay (d + 2) 31 [(0, rv (some t0)), (2, .int p2), (4, .int p4)] [] u (.returned (some (.int y))) u := by
  unfold jX1_costOnDay_31 at h
  refine rn_iload (pc := 31) 2 dX1_costOnDay_31 rfl ?_
  refine rn_iconst (pc := 33) (v := -1) dX1_costOnDay_33 (by decide) ?_
  rcases if_elim h with ⟨c9, h1⟩ | ⟨c9, h1⟩
  · refine rn_ine_f (pc := 34) 41 dX1_costOnDay_34 (by decide) c9 ?_
    refine rn_iconst (pc := 37) (v := -1) dX1_costOnDay_37 (by decide) ?_
    refine rn_goto (pc := 38) (tgt := 62) dX1_costOnDay_38 (by decide) ?_
    cases h1
    exact rn_iret (pc := 62) rfl dX1_costOnDay_62
  · refine rn_ine_t (pc := 34) (tgt := 41) dX1_costOnDay_34 (by decide) c9 ?_
    refine rn_aload_n (pc := 41) 0 dX1_costOnDay_41 rfl rfl ?_
    obtain ⟨v10, hv10, h2⟩ := bnd_some h1
    refine rn_getR (pc := 42) (k := 3) okX1 (by decide) tw_301 rfl dX1_costOnDay_42 hv10 ?_
    refine rn_aload_n (pc := 45) 0 dX1_costOnDay_45 rfl rfl ?_
    obtain ⟨v11, hv11, h3⟩ := bnd_some h2
    refine rn_getR (pc := 46) (k := 2) okX1 (by decide) tw_300 rfl dX1_costOnDay_46 hv11 ?_
    obtain ⟨v12, hv12, h4⟩ := bnd_some h3
    refine rn_getR (pc := 49) (k := 0) okX0 (by decide) tw_256 rfl dX1_costOnDay_49 hv12 ?_
    refine rn_iload_n (pc := 52) 1 dX1_costOnDay_52 rfl rfl ?_
    obtain ⟨v13, hv13, h5⟩ := bnd_some h4
    refine rn_aald24 (pc := 53) dX1_costOnDay_53 hv13 ?_
    obtain ⟨v14, hv14, h6⟩ := bnd_some h5
    refine rn_getI (pc := 54) (k := 2) okX5 (by decide) tw_236 rfl dX1_costOnDay_54 hv14 ?_
    refine rn_iload (pc := 57) 2 dX1_costOnDay_57 rfl ?_
    obtain ⟨b15, hb15, h7⟩ := bnd_some h6
    obtain ⟨qb15, kb15⟩ := chk_elim hb15
    subst qb15
    obtain ⟨v16, hv16, h8⟩ := bnd_some h7
    refine rn_callV (pc := 59) (n := 2) (As := [.int v14, .int p4]) (rest := []) (eX7_cost (d := d + 1) hv16) (by omega) okX7 kb15 tw_684 tw_71 tw_681 tw_682 tw_683 (by decide +kernel) rfl (Nat.le_of_ble_eq_true rfl) dX1_costOnDay_59 rfl ?_
    cases h8
    exact rn_iret (pc := 62) rfl dX1_costOnDay_62
theorem tX1_costOnDay {l : Launch} {G : Gt} {d : Nat} {t0 : Nat} {p1 : Int32} {p2 : Int32} {p3 : Int32} {u : Mem} {y : Int32} (h : fX1_costOnDay t0 p1 p2 p3 u = some y) : Rn l G iX1_costOnDay (d + 2) 0 [(0, rv (some t0)), (1, .int p1), (2, .int p2), (3, .int p3)] [] u (.returned (some (.int y))) u := by
  unfold fX1_costOnDay at h
  refine rn_aload_n (pc := 0) 0 dX1_costOnDay_0 rfl rfl ?_
  obtain ⟨v1, hv1, h1⟩ := bnd_some h
  refine rn_getR (pc := 1) (k := 2) okX1 (by decide) tw_300 rfl dX1_costOnDay_1 hv1 ?_
  refine rn_iload_n (pc := 4) 1 dX1_costOnDay_4 rfl rfl ?_
  refine rn_iload_n (pc := 5) 2 dX1_costOnDay_5 rfl rfl ?_
  refine rn_iload_n (pc := 6) 3 dX1_costOnDay_6 rfl rfl ?_
  obtain ⟨b2, hb2, h2⟩ := bnd_some h1
  obtain ⟨qb2, kb2⟩ := chk_elim hb2
  subst qb2
  obtain ⟨v3, hv3, h3⟩ := bnd_some h2
  refine rn_callV (pc := 7) (n := 3) (As := [.int p1, .int p2, .int p3]) (rest := []) (eX0_heldTenth (d := d + 0) hv3) (by omega) okX0 kb2 tw_650 tw_72 tw_854 tw_648 tw_649 (by decide +kernel) rfl (Nat.le_of_ble_eq_true rfl) dX1_costOnDay_7 rfl ?_
  refine rn_istore (pc := 10) (lv' := [(4, .int v3), (0, rv (some t0)), (1, .int p1), (2, .int p2), (3, .int p3)]) dX1_costOnDay_10 (by decide) rfl ?_
  refine rn_iload (pc := 12) 0 dX1_costOnDay_12 rfl ?_
  refine rn_iconst (pc := 14) (v := -1) dX1_costOnDay_14 (by decide) ?_
  rcases if_elim h3 with ⟨c4, h4⟩ | ⟨c4, h4⟩
  · refine rn_ine_f (pc := 15) 31 dX1_costOnDay_15 (by decide) c4 ?_
    refine rn_aload_n (pc := 18) 1 dX1_costOnDay_18 rfl rfl ?_
    obtain ⟨v5, hv5, h5⟩ := bnd_some h4
    refine rn_getR (pc := 19) (k := 3) okX1 (by decide) tw_301 rfl dX1_costOnDay_19 hv5 ?_
    obtain ⟨b6, hb6, h6⟩ := bnd_some h5
    obtain ⟨qb6, kb6⟩ := chk_elim hb6
    subst qb6
    obtain ⟨v7, hv7, h7⟩ := bnd_some h6
    refine rn_callV (pc := 22) (n := 0) (As := []) (rest := []) (eX7_countsMissingAsHalf (d := d + 1) hv7) (by omega) okX7 kb6 tw_691 tw_71 tw_688 tw_689 tw_690 (by decide +kernel) rfl (Nat.le_of_ble_eq_true rfl) dX1_costOnDay_22 rfl ?_
    rcases if_elim h7 with ⟨c8, h8⟩ | ⟨c8, h8⟩
    · refine rn_zeq_t (pc := 25) (tgt := 31) dX1_costOnDay_25 (by decide) c8 ?_
      exact rn_sub [1, 3, 0] rfl (jtX1_costOnDay_31 h8)
    · refine rn_zeq_f (pc := 25) 31 dX1_costOnDay_25 (by decide) c8 ?_
      refine rn_iconst (pc := 28) (v := 5) dX1_costOnDay_28 (by decide) ?_
      refine rn_istore (pc := 29) (lv' := [(4, .int (5 : Int32)), (0, rv (some t0)), (1, .int p1), (2, .int p2), (3, .int p3)]) dX1_costOnDay_29 (by decide) rfl ?_
      exact rn_sub [1, 3, 0] rfl (jtX1_costOnDay_31 h8)
  · refine rn_ine_t (pc := 15) (tgt := 31) dX1_costOnDay_15 (by decide) c4 ?_
    exact rn_sub [1, 3, 0] rfl (jtX1_costOnDay_31 h4)
theorem eX1_costOnDay {l : Launch} {G : Gt} {d : Nat} {t0 : Nat} {p1 : Int32} {p2 : Int32} {p3 : Int32} {u : Mem} {y : Int32} (h : fX1_costOnDay t0 p1 p2 p3 u = some y) : Ex l G iX1_costOnDay (d + 2) [rv (some t0), .int p1, .int p2, .int p3] u (.returned (some (.int y))) u := Ex.of (by decide +kernel) (by decide) (Nat.le_of_ble_eq_true rfl) rfl (tX1_costOnDay h)
theorem tX1_hasMean {l : Launch} {G : Gt} {d : Nat} {t0 : Nat} {p1 : Int32} {u : Mem} {y : Int32} (h : fX1_hasMean t0 p1 u = some y) : Rn l G iX1_hasMean d 0 [(0, rv (some t0)), (1, .int p1)] [] u (.returned (some (.int y))) u := by
  unfold fX1_hasMean at h
  refine rn_aload_n (pc := 0) 0 dX1_hasMean_0 rfl rfl ?_
  obtain ⟨v1, hv1, h1⟩ := bnd_some h
  refine rn_getR (pc := 1) (k := 4) okX1 (by decide) tw_302 rfl dX1_hasMean_1 hv1 ?_
  refine rn_iload_n (pc := 4) 1 dX1_hasMean_4 rfl rfl ?_
  obtain ⟨v2, hv2, h2⟩ := bnd_some h1
  refine rn_iald (pc := 5) dX1_hasMean_5 hv2 ?_
  rcases if_elim h2 with ⟨c3, h3⟩ | ⟨c3, h3⟩
  · refine rn_zle_f (pc := 6) 13 dX1_hasMean_6 (by decide) c3 ?_
    refine rn_iconst (pc := 9) (v := 1) dX1_hasMean_9 (by decide) ?_
    refine rn_goto (pc := 10) (tgt := 14) dX1_hasMean_10 (by decide) ?_
    cases h3
    exact rn_zret (pc := 14) (by decide) rfl dX1_hasMean_14
  · refine rn_zle_t (pc := 6) (tgt := 13) dX1_hasMean_6 (by decide) c3 ?_
    refine rn_iconst (pc := 13) (v := 0) dX1_hasMean_13 (by decide) ?_
    cases h3
    exact rn_zret (pc := 14) (by decide) rfl dX1_hasMean_14
theorem eX1_hasMean {l : Launch} {G : Gt} {d : Nat} {t0 : Nat} {p1 : Int32} {u : Mem} {y : Int32} (h : fX1_hasMean t0 p1 u = some y) : Ex l G iX1_hasMean d [rv (some t0), .int p1] u (.returned (some (.int y))) u := Ex.of (by decide +kernel) (by decide) (Nat.le_of_ble_eq_true rfl) rfl (tX1_hasMean h)
theorem btX1_greatestDivisor_7 {l : Launch} {G : Gt} {d : Nat} {u : Mem} {s2 : Int32} {s3 : Int32} {s4 : Int32} {y : (Int32 × Int32 × Int32) ⊕ (Int32)} {o : Outcome} {u' : Mem} (h : bX1_greatestDivisor_7 u s2 s3 s4 = some y) (k0 : ∀ s' : Int32 × Int32 × Int32, y = .inl s' → Rn l G iX1_greatestDivisor (d + 1) 7 [(2, .int s'.1), (3, .int s'.2.1), (4, .int s'.2.2)] [] u o u') (k1 : ∀ r : Int32, y = .inr (r) → Rn l G iX1_greatestDivisor (d + 1) 34 [(2, .int r)] [] u o u') : Rn l G iX1_greatestDivisor (d + 1) 7 [(2, .int s2), (3, .int s3), (4, .int s4)] [] u o u' := by
  unfold bX1_greatestDivisor_7 at h
  refine rn_iload (pc := 7) 2 dX1_greatestDivisor_7 rfl ?_
  refine rn_bipush (pc := 9) (v := 100) dX1_greatestDivisor_9 (by decide) ?_
  rcases if_elim h with ⟨c1, h1⟩ | ⟨c1, h1⟩
  · refine rn_ige_f (pc := 11) 34 dX1_greatestDivisor_11 (by decide) c1 ?_
    refine rn_iload_n (pc := 14) 1 dX1_greatestDivisor_14 rfl rfl ?_
    rcases if_elim h1 with ⟨c2, h2⟩ | ⟨c2, h2⟩
    · refine rn_zle_f (pc := 15) 34 dX1_greatestDivisor_15 (by decide) c2 ?_
      refine rn_iload_n (pc := 18) 0 dX1_greatestDivisor_18 rfl rfl ?_
      refine rn_iload_n (pc := 19) 1 dX1_greatestDivisor_19 rfl rfl ?_
      obtain ⟨z3, hz3, h3⟩ := bnd_some h2
      have hz3 := (nz32_elim hz3).2
      refine rn_irem (pc := 20) dX1_greatestDivisor_20 hz3 ?_
      obtain ⟨x4, ex4, h4⟩ := nm_elim h3
      refine rn_topi ex4 ?_
      refine rn_istore (pc := 21) (lv' := [(5, .int x4), (2, .int s2), (3, .int s3), (4, .int s4)]) dX1_greatestDivisor_21 (by decide) rfl ?_
      refine rn_iload_n (pc := 23) 2 dX1_greatestDivisor_23 rfl rfl ?_
      refine rn_istore_n (pc := 24) (lv' := [(2, .int s3), (5, .int x4), (3, .int s3), (4, .int s4)]) dX1_greatestDivisor_24 rfl (by decide) rfl ?_
      refine rn_iload (pc := 25) 1 dX1_greatestDivisor_25 rfl ?_
      refine rn_istore_n (pc := 27) (lv' := [(3, .int x4), (2, .int s3), (5, .int x4), (4, .int s4)]) dX1_greatestDivisor_27 rfl (by decide) rfl ?_
      obtain ⟨x5, ex5, h5⟩ := nm_elim h4
      refine rn_iinc (pc := 28) (v := x5) (lv' := [(4, .int x5), (3, .int x4), (2, .int s3), (5, .int x4)]) 3 dX1_greatestDivisor_28 rfl (by rw [ex5]; rfl) (by decide) rfl ?_
      refine rn_goto (pc := 31) (tgt := 7) dX1_greatestDivisor_31 (by decide) ?_
      cases h5
      exact rn_sub [2, 1, 0] rfl (k0 _ rfl)
    · refine rn_zle_t (pc := 15) (tgt := 34) dX1_greatestDivisor_15 (by decide) c2 ?_
      cases h2
      exact rn_sub [0] rfl (k1 _ rfl)
  · refine rn_ige_t (pc := 11) (tgt := 34) dX1_greatestDivisor_11 (by decide) c1 ?_
    cases h1
    exact rn_sub [0] rfl (k1 _ rfl)
theorem lX1_greatestDivisor_7 {l : Launch} {G : Gt} {d : Nat} {u : Mem} {N : Nat} {s0 : Int32 × Int32 × Int32} {r : Int32} {o : Outcome} {u' : Mem} (h : lp (fun s : Int32 × Int32 × Int32 => bX1_greatestDivisor_7 u s.1 s.2.1 s.2.2) N s0 = some r) (k1 : Rn l G iX1_greatestDivisor (d + 1) 34 [(2, .int r)] [] u o u') : Rn l G iX1_greatestDivisor (d + 1) 7 [(2, .int s0.1), (3, .int s0.2.1), (4, .int s0.2.2)] [] u o u' :=
  lp_run (P := fun s : Int32 × Int32 × Int32 => Rn l G iX1_greatestDivisor (d + 1) 7 [(2, .int s.1), (3, .int s.2.1), (4, .int s.2.2)] [] u o u') (E := fun r => Rn l G iX1_greatestDivisor (d + 1) 34 [(2, .int r)] [] u o u') (fun s y hy k0 kE => btX1_greatestDivisor_7 hy (fun s' e => k0 s' e) (fun r e => kE r e)) N s0 r h k1
theorem jtX1_greatestDivisor_34 {l : Launch} {G : Gt} {d : Nat} {p2 : Int32} {u : Mem} {y : Int32} (h : jX1_greatestDivisor_34 p2 u = some y) : Rn l G iX1_greatestDivisor (d + 1) 34 [(2, .int p2)] [] u (.returned (some (.int y))) u := by
  unfold jX1_greatestDivisor_34 at h
  refine rn_iload_n (pc := 34) 0 dX1_greatestDivisor_34 rfl rfl ?_
  refine rn_iconst (pc := 35) (v := 1) dX1_greatestDivisor_35 (by decide) ?_
  refine rn_mmax (pc := 36) (rest := []) (by omega) tw_715 (Nat.le_of_ble_eq_true rfl) dX1_greatestDivisor_36 ?_
  cases h
  exact rn_iret (pc := 39) rfl dX1_greatestDivisor_39
theorem tX1_greatestDivisor {l : Launch} {G : Gt} {d : Nat} {p0 : Int32} {p1 : Int32} {u : Mem} {y : Int32} (h : fX1_greatestDivisor p0 p1 u = some y) : Rn l G iX1_greatestDivisor (d + 1) 0 [(0, .int p0), (1, .int p1)] [] u (.returned (some (.int y))) u := by
  unfold fX1_greatestDivisor at h
  refine rn_iload_n (pc := 0) 0 dX1_greatestDivisor_0 rfl rfl ?_
  refine rn_istore_n (pc := 1) (lv' := [(2, .int p0), (0, .int p0), (1, .int p1)]) dX1_greatestDivisor_1 rfl (by decide) rfl ?_
  refine rn_iload_n (pc := 2) 2 dX1_greatestDivisor_2 rfl rfl ?_
  refine rn_istore_n (pc := 3) (lv' := [(3, .int p1), (2, .int p0), (0, .int p0), (1, .int p1)]) dX1_greatestDivisor_3 rfl (by decide) rfl ?_
  refine rn_iconst (pc := 4) (v := 0) dX1_greatestDivisor_4 (by decide) ?_
  refine rn_istore (pc := 5) (lv' := [(4, .int (0 : Int32)), (3, .int p1), (2, .int p0), (0, .int p0), (1, .int p1)]) dX1_greatestDivisor_5 (by decide) rfl ?_
  obtain ⟨r6, hr6, h1⟩ := bnd_some h
  refine rn_sub [2, 1, 0] rfl (lX1_greatestDivisor_7 hr6 ?_)
  exact rn_sub [0] rfl (jtX1_greatestDivisor_34 h1)
theorem eX1_greatestDivisor {l : Launch} {G : Gt} {d : Nat} {p0 : Int32} {p1 : Int32} {u : Mem} {y : Int32} (h : fX1_greatestDivisor p0 p1 u = some y) : Ex l G iX1_greatestDivisor (d + 1) [.int p0, .int p1] u (.returned (some (.int y))) u := Ex.of (by decide +kernel) (by decide) (Nat.le_of_ble_eq_true rfl) rfl (tX1_greatestDivisor h)
theorem tX1_meanAbove {l : Launch} {G : Gt} {d : Nat} {t0 : Nat} {p1 : Int32} {u : Mem} {y : Int32} (h : fX1_meanAbove t0 p1 u = some y) : Rn l G iX1_meanAbove (d + 2) 0 [(0, rv (some t0)), (1, .int p1)] [] u (.returned (some (.int y))) u := by
  unfold fX1_meanAbove at h
  refine rn_aload_n (pc := 0) 0 dX1_meanAbove_0 rfl rfl ?_
  obtain ⟨v1, hv1, h1⟩ := bnd_some h
  refine rn_getR (pc := 1) (k := 5) okX1 (by decide) tw_303 rfl dX1_meanAbove_1 hv1 ?_
  refine rn_iload_n (pc := 4) 1 dX1_meanAbove_4 rfl rfl ?_
  obtain ⟨v2, hv2, h2⟩ := bnd_some h1
  refine rn_iald (pc := 5) dX1_meanAbove_5 hv2 ?_
  refine rn_aload_n (pc := 6) 0 dX1_meanAbove_6 rfl rfl ?_
  obtain ⟨v3, hv3, h3⟩ := bnd_some h2
  refine rn_getR (pc := 7) (k := 5) okX1 (by decide) tw_303 rfl dX1_meanAbove_7 hv3 ?_
  refine rn_iload_n (pc := 10) 1 dX1_meanAbove_10 rfl rfl ?_
  obtain ⟨v4, hv4, h4⟩ := bnd_some h3
  refine rn_iald (pc := 11) dX1_meanAbove_11 hv4 ?_
  refine rn_aload_n (pc := 12) 0 dX1_meanAbove_12 rfl rfl ?_
  obtain ⟨v5, hv5, h5⟩ := bnd_some h4
  refine rn_getR (pc := 13) (k := 4) okX1 (by decide) tw_302 rfl dX1_meanAbove_13 hv5 ?_
  refine rn_iload_n (pc := 16) 1 dX1_meanAbove_16 rfl rfl ?_
  obtain ⟨v6, hv6, h6⟩ := bnd_some h5
  refine rn_iald (pc := 17) dX1_meanAbove_17 hv6 ?_
  obtain ⟨v7, hv7, h7⟩ := bnd_some h6
  refine rn_callS (pc := 18) (n := 2) (As := [.int v4, .int v6]) (rest := [.int v2]) (eX1_greatestDivisor (d := d + 0) hv7) (by omega) tw_714 tw_74 tw_712 tw_713 (by decide +kernel) rfl (Nat.le_of_ble_eq_true rfl) dX1_meanAbove_18 rfl ?_
  obtain ⟨z8, hz8, h8⟩ := bnd_some h7
  have hz8 := (nz32_elim hz8).2
  refine rn_idiv (pc := 21) dX1_meanAbove_21 hz8 ?_
  cases h8
  exact rn_iret (pc := 22) rfl dX1_meanAbove_22
theorem eX1_meanAbove {l : Launch} {G : Gt} {d : Nat} {t0 : Nat} {p1 : Int32} {u : Mem} {y : Int32} (h : fX1_meanAbove t0 p1 u = some y) : Ex l G iX1_meanAbove (d + 2) [rv (some t0), .int p1] u (.returned (some (.int y))) u := Ex.of (by decide +kernel) (by decide) (Nat.le_of_ble_eq_true rfl) rfl (tX1_meanAbove h)
theorem tX1_meanBelow {l : Launch} {G : Gt} {d : Nat} {t0 : Nat} {p1 : Int32} {u : Mem} {y : Int32} (h : fX1_meanBelow t0 p1 u = some y) : Rn l G iX1_meanBelow (d + 2) 0 [(0, rv (some t0)), (1, .int p1)] [] u (.returned (some (.int y))) u := by
  unfold fX1_meanBelow at h
  refine rn_aload_n (pc := 0) 0 dX1_meanBelow_0 rfl rfl ?_
  obtain ⟨v1, hv1, h1⟩ := bnd_some h
  refine rn_getR (pc := 1) (k := 4) okX1 (by decide) tw_302 rfl dX1_meanBelow_1 hv1 ?_
  refine rn_iload_n (pc := 4) 1 dX1_meanBelow_4 rfl rfl ?_
  obtain ⟨v2, hv2, h2⟩ := bnd_some h1
  refine rn_iald (pc := 5) dX1_meanBelow_5 hv2 ?_
  refine rn_aload_n (pc := 6) 0 dX1_meanBelow_6 rfl rfl ?_
  obtain ⟨v3, hv3, h3⟩ := bnd_some h2
  refine rn_getR (pc := 7) (k := 5) okX1 (by decide) tw_303 rfl dX1_meanBelow_7 hv3 ?_
  refine rn_iload_n (pc := 10) 1 dX1_meanBelow_10 rfl rfl ?_
  obtain ⟨v4, hv4, h4⟩ := bnd_some h3
  refine rn_iald (pc := 11) dX1_meanBelow_11 hv4 ?_
  refine rn_aload_n (pc := 12) 0 dX1_meanBelow_12 rfl rfl ?_
  obtain ⟨v5, hv5, h5⟩ := bnd_some h4
  refine rn_getR (pc := 13) (k := 4) okX1 (by decide) tw_302 rfl dX1_meanBelow_13 hv5 ?_
  refine rn_iload_n (pc := 16) 1 dX1_meanBelow_16 rfl rfl ?_
  obtain ⟨v6, hv6, h6⟩ := bnd_some h5
  refine rn_iald (pc := 17) dX1_meanBelow_17 hv6 ?_
  obtain ⟨v7, hv7, h7⟩ := bnd_some h6
  refine rn_callS (pc := 18) (n := 2) (As := [.int v4, .int v6]) (rest := [.int v2]) (eX1_greatestDivisor (d := d + 0) hv7) (by omega) tw_714 tw_74 tw_712 tw_713 (by decide +kernel) rfl (Nat.le_of_ble_eq_true rfl) dX1_meanBelow_18 rfl ?_
  obtain ⟨z8, hz8, h8⟩ := bnd_some h7
  have hz8 := (nz32_elim hz8).2
  refine rn_idiv (pc := 21) dX1_meanBelow_21 hz8 ?_
  cases h8
  exact rn_iret (pc := 22) rfl dX1_meanBelow_22
theorem eX1_meanBelow {l : Launch} {G : Gt} {d : Nat} {t0 : Nat} {p1 : Int32} {u : Mem} {y : Int32} (h : fX1_meanBelow t0 p1 u = some y) : Ex l G iX1_meanBelow (d + 2) [rv (some t0), .int p1] u (.returned (some (.int y))) u := Ex.of (by decide +kernel) (by decide) (Nat.le_of_ble_eq_true rfl) rfl (tX1_meanBelow h)
theorem btX1_guessersWithMean_4 {l : Launch} {G : Gt} {d : Nat} {t0 : Nat} {u : Mem} {s1 : Int32} {s2 : Int32} {y : (Int32 × Int32) ⊕ (Int32)} {o : Outcome} {u' : Mem} (h : bX1_guessersWithMean_4 t0 u s1 s2 = some y) (k0 : ∀ s' : Int32 × Int32, y = .inl s' → Rn l G iX1_guessersWithMean (d + 1) 4 [(0, rv (some t0)), (1, .int s'.1), (2, .int s'.2)] [] u o u') (k1 : ∀ r : Int32, y = .inr (r) → Rn l G iX1_guessersWithMean (d + 1) 27 [(1, .int r)] [] u o u') : Rn l G iX1_guessersWithMean (d + 1) 4 [(0, rv (some t0)), (1, .int s1), (2, .int s2)] [] u o u' := by
  unfold bX1_guessersWithMean_4 at h
  refine rn_iload_n (pc := 4) 2 dX1_guessersWithMean_4 rfl rfl ?_
  refine rn_bipush (pc := 5) (v := 20) dX1_guessersWithMean_5 (by decide) ?_
  rcases if_elim h with ⟨c1, h1⟩ | ⟨c1, h1⟩
  · refine rn_ige_f (pc := 7) 27 dX1_guessersWithMean_7 (by decide) c1 ?_
    refine rn_aload_n (pc := 10) 0 dX1_guessersWithMean_10 rfl rfl ?_
    refine rn_iload_n (pc := 11) 2 dX1_guessersWithMean_11 rfl rfl ?_
    obtain ⟨b2, hb2, h2⟩ := bnd_some h1
    obtain ⟨qb2, kb2⟩ := chk_elim hb2
    cases qb2
    obtain ⟨v3, hv3, h3⟩ := bnd_some h2
    refine rn_callV (pc := 12) (n := 1) (As := [.int s2]) (rest := []) (eX1_hasMean (d := d + 0) hv3) (by omega) okX1 kb2 tw_707 tw_74 tw_730 tw_705 tw_706 (by decide +kernel) rfl (Nat.le_of_ble_eq_true rfl) dX1_guessersWithMean_12 rfl ?_
    rcases if_elim h3 with ⟨c4, h4⟩ | ⟨c4, h4⟩
    · refine rn_zeq_t (pc := 15) (tgt := 21) dX1_guessersWithMean_15 (by decide) c4 ?_
      obtain ⟨x5, ex5, h5⟩ := nm_elim h4
      refine rn_iinc (pc := 21) (v := x5) (lv' := [(2, .int x5), (0, rv (some t0)), (1, .int s1)]) 2 dX1_guessersWithMean_21 rfl (by rw [ex5]; rfl) (by decide) rfl ?_
      refine rn_goto (pc := 24) (tgt := 4) dX1_guessersWithMean_24 (by decide) ?_
      cases h5
      exact rn_sub [1, 2, 0] rfl (k0 _ rfl)
    · refine rn_zeq_f (pc := 15) 21 dX1_guessersWithMean_15 (by decide) c4 ?_
      obtain ⟨x6, ex6, h6⟩ := nm_elim h4
      refine rn_iinc (pc := 18) (v := x6) (lv' := [(1, .int x6), (0, rv (some t0)), (2, .int s2)]) 1 dX1_guessersWithMean_18 rfl (by rw [ex6]; rfl) (by decide) rfl ?_
      obtain ⟨x7, ex7, h7⟩ := nm_elim h6
      refine rn_iinc (pc := 21) (v := x7) (lv' := [(2, .int x7), (1, .int x6), (0, rv (some t0))]) 2 dX1_guessersWithMean_21 rfl (by rw [ex7]; rfl) (by decide) rfl ?_
      refine rn_goto (pc := 24) (tgt := 4) dX1_guessersWithMean_24 (by decide) ?_
      cases h7
      exact rn_sub [2, 1, 0] rfl (k0 _ rfl)
  · refine rn_ige_t (pc := 7) (tgt := 27) dX1_guessersWithMean_7 (by decide) c1 ?_
    cases h1
    exact rn_sub [1] rfl (k1 _ rfl)
theorem lX1_guessersWithMean_4 {l : Launch} {G : Gt} {d : Nat} {t0 : Nat} {u : Mem} {N : Nat} {s0 : Int32 × Int32} {r : Int32} {o : Outcome} {u' : Mem} (h : lp (fun s : Int32 × Int32 => bX1_guessersWithMean_4 t0 u s.1 s.2) N s0 = some r) (k1 : Rn l G iX1_guessersWithMean (d + 1) 27 [(1, .int r)] [] u o u') : Rn l G iX1_guessersWithMean (d + 1) 4 [(0, rv (some t0)), (1, .int s0.1), (2, .int s0.2)] [] u o u' :=
  lp_run (P := fun s : Int32 × Int32 => Rn l G iX1_guessersWithMean (d + 1) 4 [(0, rv (some t0)), (1, .int s.1), (2, .int s.2)] [] u o u') (E := fun r => Rn l G iX1_guessersWithMean (d + 1) 27 [(1, .int r)] [] u o u') (fun s y hy k0 kE => btX1_guessersWithMean_4 hy (fun s' e => k0 s' e) (fun r e => kE r e)) N s0 r h k1
theorem tX1_guessersWithMean {l : Launch} {G : Gt} {d : Nat} {t0 : Nat} {u : Mem} {y : Int32} (h : fX1_guessersWithMean t0 u = some y) : Rn l G iX1_guessersWithMean (d + 1) 0 [(0, rv (some t0))] [] u (.returned (some (.int y))) u := by
  unfold fX1_guessersWithMean at h
  refine rn_iconst (pc := 0) (v := 0) dX1_guessersWithMean_0 (by decide) ?_
  refine rn_istore_n (pc := 1) (lv' := [(1, .int (0 : Int32)), (0, rv (some t0))]) dX1_guessersWithMean_1 rfl (by decide) rfl ?_
  refine rn_iconst (pc := 2) (v := 0) dX1_guessersWithMean_2 (by decide) ?_
  refine rn_istore_n (pc := 3) (lv' := [(2, .int (0 : Int32)), (1, .int (0 : Int32)), (0, rv (some t0))]) dX1_guessersWithMean_3 rfl (by decide) rfl ?_
  obtain ⟨r8, hr8, h1⟩ := bnd_some h
  refine rn_sub [2, 1, 0] rfl (lX1_guessersWithMean_4 hr8 ?_)
  refine rn_iload_n (pc := 27) 0 dX1_guessersWithMean_27 rfl rfl ?_
  cases h1
  exact rn_iret (pc := 28) rfl dX1_guessersWithMean_28
theorem eX1_guessersWithMean {l : Launch} {G : Gt} {d : Nat} {t0 : Nat} {u : Mem} {y : Int32} (h : fX1_guessersWithMean t0 u = some y) : Ex l G iX1_guessersWithMean (d + 1) [rv (some t0)] u (.returned (some (.int y))) u := Ex.of (by decide +kernel) (by decide) (Nat.le_of_ble_eq_true rfl) rfl (tX1_guessersWithMean h)
theorem tX1_isAhead {l : Launch} {G : Gt} {d : Nat} {t0 : Nat} {p1 : Int32} {p2 : Int32} {u : Mem} {y : Int32} (h : fX1_isAhead t0 p1 p2 u = some y) : Rn l G iX1_isAhead d 0 [(0, rv (some t0)), (1, .int p1), (2, .int p2)] [] u (.returned (some (.int y))) u := by
  unfold fX1_isAhead at h
  refine rn_aload_n (pc := 0) 0 dX1_isAhead_0 rfl rfl ?_
  obtain ⟨v1, hv1, h1⟩ := bnd_some h
  refine rn_getR (pc := 1) (k := 5) okX1 (by decide) tw_303 rfl dX1_isAhead_1 hv1 ?_
  refine rn_iload_n (pc := 4) 1 dX1_isAhead_4 rfl rfl ?_
  obtain ⟨v2, hv2, h2⟩ := bnd_some h1
  refine rn_iald (pc := 5) dX1_isAhead_5 hv2 ?_
  refine rn_i2l (pc := 6) dX1_isAhead_6 ?_
  refine rn_aload_n (pc := 7) 0 dX1_isAhead_7 rfl rfl ?_
  obtain ⟨v3, hv3, h3⟩ := bnd_some h2
  refine rn_getR (pc := 8) (k := 4) okX1 (by decide) tw_302 rfl dX1_isAhead_8 hv3 ?_
  refine rn_iload_n (pc := 11) 2 dX1_isAhead_11 rfl rfl ?_
  obtain ⟨v4, hv4, h4⟩ := bnd_some h3
  refine rn_iald (pc := 12) dX1_isAhead_12 hv4 ?_
  refine rn_i2l (pc := 13) dX1_isAhead_13 ?_
  refine rn_lmul (pc := 14) dX1_isAhead_14 ?_
  obtain ⟨x5, ex5, h5⟩ := nm_elim h4
  refine rn_topl ex5 ?_
  refine rn_lstore_n (pc := 15) (lv' := [(3, .long x5), (0, rv (some t0)), (1, .int p1), (2, .int p2)]) dX1_isAhead_15 rfl (by decide) rfl ?_
  refine rn_aload_n (pc := 16) 1 dX1_isAhead_16 rfl rfl ?_
  obtain ⟨v6, hv6, h6⟩ := bnd_some h5
  refine rn_getR (pc := 17) (k := 5) okX1 (by decide) tw_303 rfl dX1_isAhead_17 hv6 ?_
  refine rn_iload_n (pc := 20) 3 dX1_isAhead_20 rfl rfl ?_
  obtain ⟨v7, hv7, h7⟩ := bnd_some h6
  refine rn_iald (pc := 21) dX1_isAhead_21 hv7 ?_
  refine rn_i2l (pc := 22) dX1_isAhead_22 ?_
  refine rn_aload_n (pc := 23) 1 dX1_isAhead_23 rfl rfl ?_
  obtain ⟨v8, hv8, h8⟩ := bnd_some h7
  refine rn_getR (pc := 24) (k := 4) okX1 (by decide) tw_302 rfl dX1_isAhead_24 hv8 ?_
  refine rn_iload_n (pc := 27) 2 dX1_isAhead_27 rfl rfl ?_
  obtain ⟨v9, hv9, h9⟩ := bnd_some h8
  refine rn_iald (pc := 28) dX1_isAhead_28 hv9 ?_
  refine rn_i2l (pc := 29) dX1_isAhead_29 ?_
  refine rn_lmul (pc := 30) dX1_isAhead_30 ?_
  obtain ⟨x10, ex10, h10⟩ := nm_elim h9
  refine rn_topl ex10 ?_
  refine rn_lstore (pc := 31) (lv' := [(5, .long x10), (3, .long x5), (0, rv (some t0)), (1, .int p1), (2, .int p2)]) dX1_isAhead_31 (by decide) rfl ?_
  refine rn_lload_n (pc := 33) 1 dX1_isAhead_33 rfl rfl ?_
  refine rn_lload (pc := 34) 0 dX1_isAhead_34 rfl ?_
  refine rn_lcmp (pc := 36) dX1_isAhead_36 ?_
  rcases if_elim h10 with ⟨c11, h11⟩ | ⟨c11, h11⟩
  · refine rn_zlt_t (pc := 37) (tgt := 52) dX1_isAhead_37 (by decide) c11 ?_
    refine rn_iconst (pc := 52) (v := 1) dX1_isAhead_52 (by decide) ?_
    refine rn_goto (pc := 53) (tgt := 57) dX1_isAhead_53 (by decide) ?_
    cases h11
    exact rn_zret (pc := 57) (by decide) rfl dX1_isAhead_57
  · refine rn_zlt_f (pc := 37) 52 dX1_isAhead_37 (by decide) c11 ?_
    refine rn_lload_n (pc := 40) 1 dX1_isAhead_40 rfl rfl ?_
    refine rn_lload (pc := 41) 0 dX1_isAhead_41 rfl ?_
    refine rn_lcmp (pc := 43) dX1_isAhead_43 ?_
    rcases if_elim h11 with ⟨c12, h12⟩ | ⟨c12, h12⟩
    · refine rn_zne_f (pc := 44) 56 dX1_isAhead_44 (by decide) c12 ?_
      refine rn_iload_n (pc := 47) 3 dX1_isAhead_47 rfl rfl ?_
      refine rn_iload_n (pc := 48) 4 dX1_isAhead_48 rfl rfl ?_
      rcases if_elim h12 with ⟨c13, h13⟩ | ⟨c13, h13⟩
      · refine rn_ige_f (pc := 49) 56 dX1_isAhead_49 (by decide) c13 ?_
        refine rn_iconst (pc := 52) (v := 1) dX1_isAhead_52 (by decide) ?_
        refine rn_goto (pc := 53) (tgt := 57) dX1_isAhead_53 (by decide) ?_
        cases h13
        exact rn_zret (pc := 57) (by decide) rfl dX1_isAhead_57
      · refine rn_ige_t (pc := 49) (tgt := 56) dX1_isAhead_49 (by decide) c13 ?_
        refine rn_iconst (pc := 56) (v := 0) dX1_isAhead_56 (by decide) ?_
        cases h13
        exact rn_zret (pc := 57) (by decide) rfl dX1_isAhead_57
    · refine rn_zne_t (pc := 44) (tgt := 56) dX1_isAhead_44 (by decide) c12 ?_
      refine rn_iconst (pc := 56) (v := 0) dX1_isAhead_56 (by decide) ?_
      cases h12
      exact rn_zret (pc := 57) (by decide) rfl dX1_isAhead_57
theorem eX1_isAhead {l : Launch} {G : Gt} {d : Nat} {t0 : Nat} {p1 : Int32} {p2 : Int32} {u : Mem} {y : Int32} (h : fX1_isAhead t0 p1 p2 u = some y) : Ex l G iX1_isAhead d [rv (some t0), .int p1, .int p2] u (.returned (some (.int y))) u := Ex.of (by decide +kernel) (by decide) (Nat.le_of_ble_eq_true rfl) rfl (tX1_isAhead h)
theorem btX1_rankOf_4 {l : Launch} {G : Gt} {d : Nat} {t0 : Nat} {i1 : Int32} {u : Mem} {s2 : Int32} {s3 : Int32} {y : (Int32 × Int32) ⊕ (Int32)} {o : Outcome} {u' : Mem} (h : bX1_rankOf_4 t0 i1 u s2 s3 = some y) (k0 : ∀ s' : Int32 × Int32, y = .inl s' → Rn l G iX1_rankOf (d + 1) 4 [(0, rv (some t0)), (1, .int i1), (2, .int s'.1), (3, .int s'.2)] [] u o u') (k1 : ∀ r : Int32, y = .inr (r) → Rn l G iX1_rankOf (d + 1) 36 [(2, .int r)] [] u o u') : Rn l G iX1_rankOf (d + 1) 4 [(0, rv (some t0)), (1, .int i1), (2, .int s2), (3, .int s3)] [] u o u' := by
  unfold bX1_rankOf_4 at h
  refine rn_iload_n (pc := 4) 3 dX1_rankOf_4 rfl rfl ?_
  refine rn_bipush (pc := 5) (v := 20) dX1_rankOf_5 (by decide) ?_
  rcases if_elim h with ⟨c1, h1⟩ | ⟨c1, h1⟩
  · refine rn_ige_f (pc := 7) 36 dX1_rankOf_7 (by decide) c1 ?_
    refine rn_aload_n (pc := 10) 0 dX1_rankOf_10 rfl rfl ?_
    refine rn_iload_n (pc := 11) 3 dX1_rankOf_11 rfl rfl ?_
    obtain ⟨b2, hb2, h2⟩ := bnd_some h1
    obtain ⟨qb2, kb2⟩ := chk_elim hb2
    cases qb2
    obtain ⟨v3, hv3, h3⟩ := bnd_some h2
    refine rn_callV (pc := 12) (n := 1) (As := [.int s3]) (rest := []) (eX1_hasMean (d := d + 0) hv3) (by omega) okX1 kb2 tw_707 tw_74 tw_730 tw_705 tw_706 (by decide +kernel) rfl (Nat.le_of_ble_eq_true rfl) dX1_rankOf_12 rfl ?_
    rcases if_elim h3 with ⟨c4, h4⟩ | ⟨c4, h4⟩
    · refine rn_zeq_t (pc := 15) (tgt := 30) dX1_rankOf_15 (by decide) c4 ?_
      obtain ⟨x5, ex5, h5⟩ := nm_elim h4
      refine rn_iinc (pc := 30) (v := x5) (lv' := [(3, .int x5), (0, rv (some t0)), (1, .int i1), (2, .int s2)]) 3 dX1_rankOf_30 rfl (by rw [ex5]; rfl) (by decide) rfl ?_
      refine rn_goto (pc := 33) (tgt := 4) dX1_rankOf_33 (by decide) ?_
      cases h5
      exact rn_sub [1, 2, 3, 0] rfl (k0 _ rfl)
    · refine rn_zeq_f (pc := 15) 30 dX1_rankOf_15 (by decide) c4 ?_
      refine rn_aload_n (pc := 18) 0 dX1_rankOf_18 rfl rfl ?_
      refine rn_iload_n (pc := 19) 3 dX1_rankOf_19 rfl rfl ?_
      refine rn_iload_n (pc := 20) 1 dX1_rankOf_20 rfl rfl ?_
      obtain ⟨b6, hb6, h6⟩ := bnd_some h4
      obtain ⟨qb6, kb6⟩ := chk_elim hb6
      cases qb6
      obtain ⟨v7, hv7, h7⟩ := bnd_some h6
      refine rn_callV (pc := 21) (n := 2) (As := [.int s3, .int i1]) (rest := []) (eX1_isAhead (d := d + 0) hv7) (by omega) okX1 kb6 tw_736 tw_74 tw_734 tw_735 tw_16 (by decide +kernel) rfl (Nat.le_of_ble_eq_true rfl) dX1_rankOf_21 rfl ?_
      rcases if_elim h7 with ⟨c8, h8⟩ | ⟨c8, h8⟩
      · refine rn_zeq_t (pc := 24) (tgt := 30) dX1_rankOf_24 (by decide) c8 ?_
        obtain ⟨x9, ex9, h9⟩ := nm_elim h8
        refine rn_iinc (pc := 30) (v := x9) (lv' := [(3, .int x9), (0, rv (some t0)), (1, .int i1), (2, .int s2)]) 3 dX1_rankOf_30 rfl (by rw [ex9]; rfl) (by decide) rfl ?_
        refine rn_goto (pc := 33) (tgt := 4) dX1_rankOf_33 (by decide) ?_
        cases h9
        exact rn_sub [1, 2, 3, 0] rfl (k0 _ rfl)
      · refine rn_zeq_f (pc := 24) 30 dX1_rankOf_24 (by decide) c8 ?_
        obtain ⟨x10, ex10, h10⟩ := nm_elim h8
        refine rn_iinc (pc := 27) (v := x10) (lv' := [(2, .int x10), (0, rv (some t0)), (1, .int i1), (3, .int s3)]) 2 dX1_rankOf_27 rfl (by rw [ex10]; rfl) (by decide) rfl ?_
        obtain ⟨x11, ex11, h11⟩ := nm_elim h10
        refine rn_iinc (pc := 30) (v := x11) (lv' := [(3, .int x11), (2, .int x10), (0, rv (some t0)), (1, .int i1)]) 3 dX1_rankOf_30 rfl (by rw [ex11]; rfl) (by decide) rfl ?_
        refine rn_goto (pc := 33) (tgt := 4) dX1_rankOf_33 (by decide) ?_
        cases h11
        exact rn_sub [2, 3, 1, 0] rfl (k0 _ rfl)
  · refine rn_ige_t (pc := 7) (tgt := 36) dX1_rankOf_7 (by decide) c1 ?_
    cases h1
    exact rn_sub [2] rfl (k1 _ rfl)
theorem lX1_rankOf_4 {l : Launch} {G : Gt} {d : Nat} {t0 : Nat} {i1 : Int32} {u : Mem} {N : Nat} {s0 : Int32 × Int32} {r : Int32} {o : Outcome} {u' : Mem} (h : lp (fun s : Int32 × Int32 => bX1_rankOf_4 t0 i1 u s.1 s.2) N s0 = some r) (k1 : Rn l G iX1_rankOf (d + 1) 36 [(2, .int r)] [] u o u') : Rn l G iX1_rankOf (d + 1) 4 [(0, rv (some t0)), (1, .int i1), (2, .int s0.1), (3, .int s0.2)] [] u o u' :=
  lp_run (P := fun s : Int32 × Int32 => Rn l G iX1_rankOf (d + 1) 4 [(0, rv (some t0)), (1, .int i1), (2, .int s.1), (3, .int s.2)] [] u o u') (E := fun r => Rn l G iX1_rankOf (d + 1) 36 [(2, .int r)] [] u o u') (fun s y hy k0 kE => btX1_rankOf_4 hy (fun s' e => k0 s' e) (fun r e => kE r e)) N s0 r h k1
theorem tX1_rankOf {l : Launch} {G : Gt} {d : Nat} {t0 : Nat} {p1 : Int32} {u : Mem} {y : Int32} (h : fX1_rankOf t0 p1 u = some y) : Rn l G iX1_rankOf (d + 1) 0 [(0, rv (some t0)), (1, .int p1)] [] u (.returned (some (.int y))) u := by
  unfold fX1_rankOf at h
  refine rn_iconst (pc := 0) (v := 0) dX1_rankOf_0 (by decide) ?_
  refine rn_istore_n (pc := 1) (lv' := [(2, .int (0 : Int32)), (0, rv (some t0)), (1, .int p1)]) dX1_rankOf_1 rfl (by decide) rfl ?_
  refine rn_iconst (pc := 2) (v := 0) dX1_rankOf_2 (by decide) ?_
  refine rn_istore_n (pc := 3) (lv' := [(3, .int (0 : Int32)), (2, .int (0 : Int32)), (0, rv (some t0)), (1, .int p1)]) dX1_rankOf_3 rfl (by decide) rfl ?_
  obtain ⟨r12, hr12, h1⟩ := bnd_some h
  refine rn_sub [2, 3, 1, 0] rfl (lX1_rankOf_4 hr12 ?_)
  refine rn_iload_n (pc := 36) 0 dX1_rankOf_36 rfl rfl ?_
  cases h1
  exact rn_iret (pc := 37) rfl dX1_rankOf_37
theorem eX1_rankOf {l : Launch} {G : Gt} {d : Nat} {t0 : Nat} {p1 : Int32} {u : Mem} {y : Int32} (h : fX1_rankOf t0 p1 u = some y) : Ex l G iX1_rankOf (d + 1) [rv (some t0), .int p1] u (.returned (some (.int y))) u := Ex.of (by decide +kernel) (by decide) (Nat.le_of_ble_eq_true rfl) rfl (tX1_rankOf h)
theorem btX1_guesserAtRank_2 {l : Launch} {G : Gt} {d : Nat} {t0 : Nat} {i1 : Int32} {u : Mem} {s2 : Int32} {y : (Int32) ⊕ ((Unit) ⊕ (Int32))} {o : Outcome} {u' : Mem} (h : bX1_guesserAtRank_2 t0 i1 u s2 = some y) (k0 : ∀ s' : Int32, y = .inl s' → Rn l G iX1_guesserAtRank (d + 2) 2 [(0, rv (some t0)), (1, .int i1), (2, .int s')] [] u o u') (k1 : ∀ r : Unit, y = .inr (.inl r) → Rn l G iX1_guesserAtRank (d + 2) 33 [] [] u o u') (k2 : ∀ r : Int32, y = .inr (.inr (r)) → Rn l G iX1_guesserAtRank (d + 2) 25 [(2, .int r)] [] u o u') : Rn l G iX1_guesserAtRank (d + 2) 2 [(0, rv (some t0)), (1, .int i1), (2, .int s2)] [] u o u' := by
  unfold bX1_guesserAtRank_2 at h
  refine rn_iload_n (pc := 2) 2 dX1_guesserAtRank_2 rfl rfl ?_
  refine rn_bipush (pc := 3) (v := 20) dX1_guesserAtRank_3 (by decide) ?_
  rcases if_elim h with ⟨c1, h1⟩ | ⟨c1, h1⟩
  · refine rn_ige_f (pc := 5) 33 dX1_guesserAtRank_5 (by decide) c1 ?_
    refine rn_aload_n (pc := 8) 0 dX1_guesserAtRank_8 rfl rfl ?_
    refine rn_iload_n (pc := 9) 2 dX1_guesserAtRank_9 rfl rfl ?_
    obtain ⟨b2, hb2, h2⟩ := bnd_some h1
    obtain ⟨qb2, kb2⟩ := chk_elim hb2
    cases qb2
    obtain ⟨v3, hv3, h3⟩ := bnd_some h2
    refine rn_callV (pc := 10) (n := 1) (As := [.int s2]) (rest := []) (eX1_hasMean (d := d + 1) hv3) (by omega) okX1 kb2 tw_707 tw_74 tw_730 tw_705 tw_706 (by decide +kernel) rfl (Nat.le_of_ble_eq_true rfl) dX1_guesserAtRank_10 rfl ?_
    rcases if_elim h3 with ⟨c4, h4⟩ | ⟨c4, h4⟩
    · refine rn_zeq_t (pc := 13) (tgt := 27) dX1_guesserAtRank_13 (by decide) c4 ?_
      obtain ⟨x5, ex5, h5⟩ := nm_elim h4
      refine rn_iinc (pc := 27) (v := x5) (lv' := [(2, .int x5), (0, rv (some t0)), (1, .int i1)]) 2 dX1_guesserAtRank_27 rfl (by rw [ex5]; rfl) (by decide) rfl ?_
      refine rn_goto (pc := 30) (tgt := 2) dX1_guesserAtRank_30 (by decide) ?_
      cases h5
      exact rn_sub [1, 2, 0] rfl (k0 _ rfl)
    · refine rn_zeq_f (pc := 13) 27 dX1_guesserAtRank_13 (by decide) c4 ?_
      refine rn_aload_n (pc := 16) 0 dX1_guesserAtRank_16 rfl rfl ?_
      refine rn_iload_n (pc := 17) 2 dX1_guesserAtRank_17 rfl rfl ?_
      obtain ⟨b6, hb6, h6⟩ := bnd_some h4
      obtain ⟨qb6, kb6⟩ := chk_elim hb6
      cases qb6
      obtain ⟨v7, hv7, h7⟩ := bnd_some h6
      refine rn_callV (pc := 18) (n := 1) (As := [.int s2]) (rest := []) (eX1_rankOf (d := d + 0) hv7) (by omega) okX1 kb6 tw_733 tw_74 tw_731 tw_732 tw_15 (by decide +kernel) rfl (Nat.le_of_ble_eq_true rfl) dX1_guesserAtRank_18 rfl ?_
      refine rn_iload_n (pc := 21) 1 dX1_guesserAtRank_21 rfl rfl ?_
      rcases if_elim h7 with ⟨c8, h8⟩ | ⟨c8, h8⟩
      · refine rn_ine_f (pc := 22) 27 dX1_guesserAtRank_22 (by decide) c8 ?_
        cases h8
        exact rn_sub [2] rfl (k2 _ rfl)
      · refine rn_ine_t (pc := 22) (tgt := 27) dX1_guesserAtRank_22 (by decide) c8 ?_
        obtain ⟨x9, ex9, h9⟩ := nm_elim h8
        refine rn_iinc (pc := 27) (v := x9) (lv' := [(2, .int x9), (0, rv (some t0)), (1, .int i1)]) 2 dX1_guesserAtRank_27 rfl (by rw [ex9]; rfl) (by decide) rfl ?_
        refine rn_goto (pc := 30) (tgt := 2) dX1_guesserAtRank_30 (by decide) ?_
        cases h9
        exact rn_sub [1, 2, 0] rfl (k0 _ rfl)
  · refine rn_ige_t (pc := 5) (tgt := 33) dX1_guesserAtRank_5 (by decide) c1 ?_
    cases h1
    exact rn_sub [] rfl (k1 _ rfl)
theorem lX1_guesserAtRank_2 {l : Launch} {G : Gt} {d : Nat} {t0 : Nat} {i1 : Int32} {u : Mem} {N : Nat} {s0 : Int32} {r : (Unit) ⊕ (Int32)} {o : Outcome} {u' : Mem} (h : lp (fun s : Int32 => bX1_guesserAtRank_2 t0 i1 u s) N s0 = some r) (k1 : ∀ r' : Unit, r = .inl r' → Rn l G iX1_guesserAtRank (d + 2) 33 [] [] u o u') (k2 : ∀ r' : Int32, r = .inr (r') → Rn l G iX1_guesserAtRank (d + 2) 25 [(2, .int r')] [] u o u') : Rn l G iX1_guesserAtRank (d + 2) 2 [(0, rv (some t0)), (1, .int i1), (2, .int s0)] [] u o u' :=
  lp_run (P := fun s : Int32 => Rn l G iX1_guesserAtRank (d + 2) 2 [(0, rv (some t0)), (1, .int i1), (2, .int s)] [] u o u') (E := fun r => (∀ r' : Unit, r = .inl r' → Rn l G iX1_guesserAtRank (d + 2) 33 [] [] u o u') ∧ (∀ r' : Int32, r = .inr (r') → Rn l G iX1_guesserAtRank (d + 2) 25 [(2, .int r')] [] u o u')) (fun s y hy k0 kE => btX1_guesserAtRank_2 hy (fun s' e => k0 s' e) (fun r e => (kE _ e).1 r rfl) (fun r e => (kE _ e).2 r rfl)) N s0 r h ⟨k1, k2⟩
theorem tX1_guesserAtRank {l : Launch} {G : Gt} {d : Nat} {t0 : Nat} {p1 : Int32} {u : Mem} {y : Int32} (h : fX1_guesserAtRank t0 p1 u = some y) : Rn l G iX1_guesserAtRank (d + 2) 0 [(0, rv (some t0)), (1, .int p1)] [] u (.returned (some (.int y))) u := by
  unfold fX1_guesserAtRank at h
  refine rn_iconst (pc := 0) (v := 0) dX1_guesserAtRank_0 (by decide) ?_
  refine rn_istore_n (pc := 1) (lv' := [(2, .int (0 : Int32)), (0, rv (some t0)), (1, .int p1)]) dX1_guesserAtRank_1 rfl (by decide) rfl ?_
  obtain ⟨r10, hr10, h1⟩ := bnd_some h
  rcases r10 with r11 | r12
  · refine rn_sub [1, 2, 0] rfl (lX1_guesserAtRank_2 hr10 (fun _ hq => ?_) (fun _ hq => by cases hq))
    cases hq
    have h2 := sumE_l h1
    refine rn_iconst (pc := 33) (v := -1) dX1_guesserAtRank_33 (by decide) ?_
    cases h2
    exact rn_iret (pc := 34) rfl dX1_guesserAtRank_34
  · refine rn_sub [1, 2, 0] rfl (lX1_guesserAtRank_2 hr10 (fun _ hq => by cases hq) (fun _ hq => ?_))
    cases hq
    have h3 := sumE_r h1
    refine rn_iload_n (pc := 25) 0 dX1_guesserAtRank_25 rfl rfl ?_
    cases h3
    exact rn_iret (pc := 26) rfl dX1_guesserAtRank_26
theorem eX1_guesserAtRank {l : Launch} {G : Gt} {d : Nat} {t0 : Nat} {p1 : Int32} {u : Mem} {y : Int32} (h : fX1_guesserAtRank t0 p1 u = some y) : Ex l G iX1_guesserAtRank (d + 2) [rv (some t0), .int p1] u (.returned (some (.int y))) u := Ex.of (by decide +kernel) (by decide) (Nat.le_of_ble_eq_true rfl) rfl (tX1_guesserAtRank h)
theorem tX1_expectedCost {l : Launch} {G : Gt} {d : Nat} {t0 : Nat} {p1 : Int32} {p2 : Int32} {u : Mem} {y : Int32} (h : fX1_expectedCost t0 p1 p2 u = some y) : Rn l G iX1_expectedCost d 0 [(0, rv (some t0)), (1, .int p1), (2, .int p2)] [] u (.returned (some (.int y))) u := by
  unfold fX1_expectedCost at h
  refine rn_iload_n (pc := 0) 1 dX1_expectedCost_0 rfl rfl ?_
  refine rn_aload_n (pc := 1) 0 dX1_expectedCost_1 rfl rfl ?_
  obtain ⟨v1, hv1, h1⟩ := bnd_some h
  refine rn_getR (pc := 2) (k := 3) okX1 (by decide) tw_301 rfl dX1_expectedCost_2 hv1 ?_
  obtain ⟨v2, hv2, h2⟩ := bnd_some h1
  refine rn_getR (pc := 5) (k := 0) okX7 (by decide) tw_134 rfl dX1_expectedCost_5 hv2 ?_
  refine rn_iload_n (pc := 8) 2 dX1_expectedCost_8 rfl rfl ?_
  obtain ⟨v3, hv3, h3⟩ := bnd_some h2
  refine rn_iald (pc := 9) dX1_expectedCost_9 hv3 ?_
  refine rn_imul (pc := 10) dX1_expectedCost_10 ?_
  refine rn_bipush (pc := 11) (v := 10) dX1_expectedCost_11 (by decide) ?_
  refine rn_iload_n (pc := 13) 1 dX1_expectedCost_13 rfl rfl ?_
  refine rn_isub (pc := 14) dX1_expectedCost_14 ?_
  refine rn_aload_n (pc := 15) 0 dX1_expectedCost_15 rfl rfl ?_
  obtain ⟨v4, hv4, h4⟩ := bnd_some h3
  refine rn_getR (pc := 16) (k := 3) okX1 (by decide) tw_301 rfl dX1_expectedCost_16 hv4 ?_
  obtain ⟨v5, hv5, h5⟩ := bnd_some h4
  refine rn_getR (pc := 19) (k := 1) okX7 (by decide) tw_138 rfl dX1_expectedCost_19 hv5 ?_
  refine rn_iload_n (pc := 22) 2 dX1_expectedCost_22 rfl rfl ?_
  obtain ⟨v6, hv6, h6⟩ := bnd_some h5
  refine rn_iald (pc := 23) dX1_expectedCost_23 hv6 ?_
  refine rn_imul (pc := 24) dX1_expectedCost_24 ?_
  refine rn_iadd (pc := 25) dX1_expectedCost_25 ?_
  cases h6
  exact rn_iret (pc := 26) rfl dX1_expectedCost_26
theorem eX1_expectedCost {l : Launch} {G : Gt} {d : Nat} {t0 : Nat} {p1 : Int32} {p2 : Int32} {u : Mem} {y : Int32} (h : fX1_expectedCost t0 p1 p2 u = some y) : Ex l G iX1_expectedCost d [rv (some t0), .int p1, .int p2] u (.returned (some (.int y))) u := Ex.of (by decide +kernel) (by decide) (Nat.le_of_ble_eq_true rfl) rfl (tX1_expectedCost h)
theorem btX1_bestTenthToSay_4 {l : Launch} {G : Gt} {d : Nat} {t0 : Nat} {i1 : Int32} {u : Mem} {s2 : Int32} {s3 : Int32} {y : (Int32 × Int32) ⊕ (Int32)} {o : Outcome} {u' : Mem} (h : bX1_bestTenthToSay_4 t0 i1 u s2 s3 = some y) (k0 : ∀ s' : Int32 × Int32, y = .inl s' → Rn l G iX1_bestTenthToSay (d + 1) 4 [(0, rv (some t0)), (1, .int i1), (2, .int s'.1), (3, .int s'.2)] [] u o u') (k1 : ∀ r : Int32, y = .inr (r) → Rn l G iX1_bestTenthToSay (d + 1) 33 [(2, .int r)] [] u o u') : Rn l G iX1_bestTenthToSay (d + 1) 4 [(0, rv (some t0)), (1, .int i1), (2, .int s2), (3, .int s3)] [] u o u' := by
  unfold bX1_bestTenthToSay_4 at h
  refine rn_iload_n (pc := 4) 3 dX1_bestTenthToSay_4 rfl rfl ?_
  refine rn_bipush (pc := 5) (v := 11) dX1_bestTenthToSay_5 (by decide) ?_
  rcases if_elim h with ⟨c1, h1⟩ | ⟨c1, h1⟩
  · refine rn_ige_f (pc := 7) 33 dX1_bestTenthToSay_7 (by decide) c1 ?_
    refine rn_aload_n (pc := 10) 0 dX1_bestTenthToSay_10 rfl rfl ?_
    refine rn_iload_n (pc := 11) 1 dX1_bestTenthToSay_11 rfl rfl ?_
    refine rn_iload_n (pc := 12) 3 dX1_bestTenthToSay_12 rfl rfl ?_
    obtain ⟨b2, hb2, h2⟩ := bnd_some h1
    obtain ⟨qb2, kb2⟩ := chk_elim hb2
    cases qb2
    obtain ⟨v3, hv3, h3⟩ := bnd_some h2
    refine rn_callV (pc := 13) (n := 2) (As := [.int i1, .int s3]) (rest := []) (eX1_expectedCost (d := d + 0) hv3) (by omega) okX1 kb2 tw_747 tw_74 tw_745 tw_746 tw_17 (by decide +kernel) rfl (Nat.le_of_ble_eq_true rfl) dX1_bestTenthToSay_13 rfl ?_
    refine rn_aload_n (pc := 16) 0 dX1_bestTenthToSay_16 rfl rfl ?_
    refine rn_iload_n (pc := 17) 1 dX1_bestTenthToSay_17 rfl rfl ?_
    refine rn_iload_n (pc := 18) 2 dX1_bestTenthToSay_18 rfl rfl ?_
    obtain ⟨b4, hb4, h4⟩ := bnd_some h3
    obtain ⟨qb4, kb4⟩ := chk_elim hb4
    cases qb4
    obtain ⟨v5, hv5, h5⟩ := bnd_some h4
    refine rn_callV (pc := 19) (n := 2) (As := [.int i1, .int s2]) (rest := [.int v3]) (eX1_expectedCost (d := d + 0) hv5) (by omega) okX1 kb4 tw_747 tw_74 tw_745 tw_746 tw_17 (by decide +kernel) rfl (Nat.le_of_ble_eq_true rfl) dX1_bestTenthToSay_19 rfl ?_
    rcases if_elim h5 with ⟨c6, h6⟩ | ⟨c6, h6⟩
    · refine rn_ige_f (pc := 22) 27 dX1_bestTenthToSay_22 (by decide) c6 ?_
      refine rn_iload_n (pc := 25) 3 dX1_bestTenthToSay_25 rfl rfl ?_
      refine rn_istore_n (pc := 26) (lv' := [(2, .int s3), (0, rv (some t0)), (1, .int i1), (3, .int s3)]) dX1_bestTenthToSay_26 rfl (by decide) rfl ?_
      obtain ⟨x7, ex7, h7⟩ := nm_elim h6
      refine rn_iinc (pc := 27) (v := x7) (lv' := [(3, .int x7), (2, .int s3), (0, rv (some t0)), (1, .int i1)]) 3 dX1_bestTenthToSay_27 rfl (by rw [ex7]; rfl) (by decide) rfl ?_
      refine rn_goto (pc := 30) (tgt := 4) dX1_bestTenthToSay_30 (by decide) ?_
      cases h7
      exact rn_sub [2, 3, 1, 0] rfl (k0 _ rfl)
    · refine rn_ige_t (pc := 22) (tgt := 27) dX1_bestTenthToSay_22 (by decide) c6 ?_
      obtain ⟨x8, ex8, h8⟩ := nm_elim h6
      refine rn_iinc (pc := 27) (v := x8) (lv' := [(3, .int x8), (0, rv (some t0)), (1, .int i1), (2, .int s2)]) 3 dX1_bestTenthToSay_27 rfl (by rw [ex8]; rfl) (by decide) rfl ?_
      refine rn_goto (pc := 30) (tgt := 4) dX1_bestTenthToSay_30 (by decide) ?_
      cases h8
      exact rn_sub [1, 2, 3, 0] rfl (k0 _ rfl)
  · refine rn_ige_t (pc := 7) (tgt := 33) dX1_bestTenthToSay_7 (by decide) c1 ?_
    cases h1
    exact rn_sub [2] rfl (k1 _ rfl)
theorem lX1_bestTenthToSay_4 {l : Launch} {G : Gt} {d : Nat} {t0 : Nat} {i1 : Int32} {u : Mem} {N : Nat} {s0 : Int32 × Int32} {r : Int32} {o : Outcome} {u' : Mem} (h : lp (fun s : Int32 × Int32 => bX1_bestTenthToSay_4 t0 i1 u s.1 s.2) N s0 = some r) (k1 : Rn l G iX1_bestTenthToSay (d + 1) 33 [(2, .int r)] [] u o u') : Rn l G iX1_bestTenthToSay (d + 1) 4 [(0, rv (some t0)), (1, .int i1), (2, .int s0.1), (3, .int s0.2)] [] u o u' :=
  lp_run (P := fun s : Int32 × Int32 => Rn l G iX1_bestTenthToSay (d + 1) 4 [(0, rv (some t0)), (1, .int i1), (2, .int s.1), (3, .int s.2)] [] u o u') (E := fun r => Rn l G iX1_bestTenthToSay (d + 1) 33 [(2, .int r)] [] u o u') (fun s y hy k0 kE => btX1_bestTenthToSay_4 hy (fun s' e => k0 s' e) (fun r e => kE r e)) N s0 r h k1
theorem tX1_bestTenthToSay {l : Launch} {G : Gt} {d : Nat} {t0 : Nat} {p1 : Int32} {u : Mem} {y : Int32} (h : fX1_bestTenthToSay t0 p1 u = some y) : Rn l G iX1_bestTenthToSay (d + 1) 0 [(0, rv (some t0)), (1, .int p1)] [] u (.returned (some (.int y))) u := by
  unfold fX1_bestTenthToSay at h
  refine rn_iconst (pc := 0) (v := 0) dX1_bestTenthToSay_0 (by decide) ?_
  refine rn_istore_n (pc := 1) (lv' := [(2, .int (0 : Int32)), (0, rv (some t0)), (1, .int p1)]) dX1_bestTenthToSay_1 rfl (by decide) rfl ?_
  refine rn_iconst (pc := 2) (v := 1) dX1_bestTenthToSay_2 (by decide) ?_
  refine rn_istore_n (pc := 3) (lv' := [(3, .int (1 : Int32)), (2, .int (0 : Int32)), (0, rv (some t0)), (1, .int p1)]) dX1_bestTenthToSay_3 rfl (by decide) rfl ?_
  obtain ⟨r9, hr9, h1⟩ := bnd_some h
  refine rn_sub [2, 3, 1, 0] rfl (lX1_bestTenthToSay_4 hr9 ?_)
  refine rn_iload_n (pc := 33) 0 dX1_bestTenthToSay_33 rfl rfl ?_
  cases h1
  exact rn_iret (pc := 34) rfl dX1_bestTenthToSay_34
theorem eX1_bestTenthToSay {l : Launch} {G : Gt} {d : Nat} {t0 : Nat} {p1 : Int32} {u : Mem} {y : Int32} (h : fX1_bestTenthToSay t0 p1 u = some y) : Ex l G iX1_bestTenthToSay (d + 1) [rv (some t0), .int p1] u (.returned (some (.int y))) u := Ex.of (by decide +kernel) (by decide) (Nat.le_of_ble_eq_true rfl) rfl (tX1_bestTenthToSay h)
theorem btX1_paysAlone_9 {l : Launch} {G : Gt} {d : Nat} {t0 : Nat} {i1 : Int32} {i2 : Int32} {u : Mem} {s3 : Int32} {y : (Int32) ⊕ ((Unit) ⊕ (Unit))} {o : Outcome} {u' : Mem} (h : bX1_paysAlone_9 t0 i1 i2 u s3 = some y) (k0 : ∀ s' : Int32, y = .inl s' → Rn l G iX1_paysAlone (d + 1) 9 [(0, rv (some t0)), (1, .int i1), (2, .int i2), (3, .int s')] [] u o u') (k1 : ∀ r : Unit, y = .inr (.inl r) → Rn l G iX1_paysAlone (d + 1) 38 [] [] u o u') (k2 : ∀ r : Unit, y = .inr (.inr (r)) → Rn l G iX1_paysAlone (d + 1) 30 [] [] u o u') : Rn l G iX1_paysAlone (d + 1) 9 [(0, rv (some t0)), (1, .int i1), (2, .int i2), (3, .int s3)] [] u o u' := by
  unfold bX1_paysAlone_9 at h
  refine rn_iload_n (pc := 9) 3 dX1_paysAlone_9 rfl rfl ?_
  refine rn_bipush (pc := 10) (v := 11) dX1_paysAlone_10 (by decide) ?_
  rcases if_elim h with ⟨c3, h1⟩ | ⟨c3, h1⟩
  · refine rn_ige_f (pc := 12) 38 dX1_paysAlone_12 (by decide) c3 ?_
    refine rn_iload_n (pc := 15) 3 dX1_paysAlone_15 rfl rfl ?_
    refine rn_iload_n (pc := 16) 1 dX1_paysAlone_16 rfl rfl ?_
    rcases if_elim h1 with ⟨c4, h2⟩ | ⟨c4, h2⟩
    · refine rn_ieq_t (pc := 17) (tgt := 32) dX1_paysAlone_17 (by decide) c4 ?_
      obtain ⟨x5, ex5, h3⟩ := nm_elim h2
      refine rn_iinc (pc := 32) (v := x5) (lv' := [(3, .int x5), (0, rv (some t0)), (1, .int i1), (2, .int i2)]) 3 dX1_paysAlone_32 rfl (by rw [ex5]; rfl) (by decide) rfl ?_
      refine rn_goto (pc := 35) (tgt := 9) dX1_paysAlone_35 (by decide) ?_
      cases h3
      exact rn_sub [1, 2, 3, 0] rfl (k0 _ rfl)
    · refine rn_ieq_f (pc := 17) 32 dX1_paysAlone_17 (by decide) c4 ?_
      refine rn_aload_n (pc := 20) 0 dX1_paysAlone_20 rfl rfl ?_
      refine rn_iload_n (pc := 21) 1 dX1_paysAlone_21 rfl rfl ?_
      refine rn_iload_n (pc := 22) 3 dX1_paysAlone_22 rfl rfl ?_
      obtain ⟨b6, hb6, h4⟩ := bnd_some h2
      obtain ⟨qb6, kb6⟩ := chk_elim hb6
      cases qb6
      obtain ⟨v7, hv7, h5⟩ := bnd_some h4
      refine rn_callV (pc := 23) (n := 2) (As := [.int i1, .int s3]) (rest := []) (eX1_expectedCost (d := d + 0) hv7) (by omega) okX1 kb6 tw_747 tw_74 tw_745 tw_746 tw_17 (by decide +kernel) rfl (Nat.le_of_ble_eq_true rfl) dX1_paysAlone_23 rfl ?_
      refine rn_iload_n (pc := 26) 2 dX1_paysAlone_26 rfl rfl ?_
      rcases if_elim h5 with ⟨c8, h6⟩ | ⟨c8, h6⟩
      · refine rn_igt_t (pc := 27) (tgt := 32) dX1_paysAlone_27 (by decide) c8 ?_
        obtain ⟨x9, ex9, h7⟩ := nm_elim h6
        refine rn_iinc (pc := 32) (v := x9) (lv' := [(3, .int x9), (0, rv (some t0)), (1, .int i1), (2, .int i2)]) 3 dX1_paysAlone_32 rfl (by rw [ex9]; rfl) (by decide) rfl ?_
        refine rn_goto (pc := 35) (tgt := 9) dX1_paysAlone_35 (by decide) ?_
        cases h7
        exact rn_sub [1, 2, 3, 0] rfl (k0 _ rfl)
      · refine rn_igt_f (pc := 27) 32 dX1_paysAlone_27 (by decide) c8 ?_
        cases h6
        exact rn_sub [] rfl (k2 _ rfl)
  · refine rn_ige_t (pc := 12) (tgt := 38) dX1_paysAlone_12 (by decide) c3 ?_
    cases h1
    exact rn_sub [] rfl (k1 _ rfl)
theorem lX1_paysAlone_9 {l : Launch} {G : Gt} {d : Nat} {t0 : Nat} {i1 : Int32} {i2 : Int32} {u : Mem} {N : Nat} {s0 : Int32} {r : (Unit) ⊕ (Unit)} {o : Outcome} {u' : Mem} (h : lp (fun s : Int32 => bX1_paysAlone_9 t0 i1 i2 u s) N s0 = some r) (k1 : ∀ r' : Unit, r = .inl r' → Rn l G iX1_paysAlone (d + 1) 38 [] [] u o u') (k2 : ∀ r' : Unit, r = .inr (r') → Rn l G iX1_paysAlone (d + 1) 30 [] [] u o u') : Rn l G iX1_paysAlone (d + 1) 9 [(0, rv (some t0)), (1, .int i1), (2, .int i2), (3, .int s0)] [] u o u' :=
  lp_run (P := fun s : Int32 => Rn l G iX1_paysAlone (d + 1) 9 [(0, rv (some t0)), (1, .int i1), (2, .int i2), (3, .int s)] [] u o u') (E := fun r => (∀ r' : Unit, r = .inl r' → Rn l G iX1_paysAlone (d + 1) 38 [] [] u o u') ∧ (∀ r' : Unit, r = .inr (r') → Rn l G iX1_paysAlone (d + 1) 30 [] [] u o u')) (fun s y hy k0 kE => btX1_paysAlone_9 hy (fun s' e => k0 s' e) (fun r e => (kE _ e).1 r rfl) (fun r e => (kE _ e).2 r rfl)) N s0 r h ⟨k1, k2⟩
theorem tX1_paysAlone {l : Launch} {G : Gt} {d : Nat} {t0 : Nat} {p1 : Int32} {u : Mem} {y : Int32} (h : fX1_paysAlone t0 p1 u = some y) : Rn l G iX1_paysAlone (d + 1) 0 [(0, rv (some t0)), (1, .int p1)] [] u (.returned (some (.int y))) u := by
  unfold fX1_paysAlone at h
  refine rn_aload_n (pc := 0) 0 dX1_paysAlone_0 rfl rfl ?_
  refine rn_iload_n (pc := 1) 1 dX1_paysAlone_1 rfl rfl ?_
  refine rn_iload_n (pc := 2) 1 dX1_paysAlone_2 rfl rfl ?_
  obtain ⟨b1, hb1, h1⟩ := bnd_some h
  obtain ⟨qb1, kb1⟩ := chk_elim hb1
  cases qb1
  obtain ⟨v2, hv2, h2⟩ := bnd_some h1
  refine rn_callV (pc := 3) (n := 2) (As := [.int p1, .int p1]) (rest := []) (eX1_expectedCost (d := d + 0) hv2) (by omega) okX1 kb1 tw_747 tw_74 tw_745 tw_746 tw_17 (by decide +kernel) rfl (Nat.le_of_ble_eq_true rfl) dX1_paysAlone_3 rfl ?_
  refine rn_istore_n (pc := 6) (lv' := [(2, .int v2), (0, rv (some t0)), (1, .int p1)]) dX1_paysAlone_6 rfl (by decide) rfl ?_
  refine rn_iconst (pc := 7) (v := 0) dX1_paysAlone_7 (by decide) ?_
  refine rn_istore_n (pc := 8) (lv' := [(3, .int (0 : Int32)), (2, .int v2), (0, rv (some t0)), (1, .int p1)]) dX1_paysAlone_8 rfl (by decide) rfl ?_
  obtain ⟨r10, hr10, h3⟩ := bnd_some h2
  rcases r10 with r11 | r12
  · refine rn_sub [2, 3, 1, 0] rfl (lX1_paysAlone_9 hr10 (fun _ hq => ?_) (fun _ hq => by cases hq))
    cases hq
    have h4 := sumE_l h3
    refine rn_iconst (pc := 38) (v := 1) dX1_paysAlone_38 (by decide) ?_
    cases h4
    exact rn_zret (pc := 39) (by decide) rfl dX1_paysAlone_39
  · refine rn_sub [2, 3, 1, 0] rfl (lX1_paysAlone_9 hr10 (fun _ hq => by cases hq) (fun _ hq => ?_))
    cases hq
    have h5 := sumE_r h3
    refine rn_iconst (pc := 30) (v := 0) dX1_paysAlone_30 (by decide) ?_
    cases h5
    exact rn_zret (pc := 31) (by decide) rfl dX1_paysAlone_31
theorem eX1_paysAlone {l : Launch} {G : Gt} {d : Nat} {t0 : Nat} {p1 : Int32} {u : Mem} {y : Int32} (h : fX1_paysAlone t0 p1 u = some y) : Ex l G iX1_paysAlone (d + 1) [rv (some t0), .int p1] u (.returned (some (.int y))) u := Ex.of (by decide +kernel) (by decide) (Nat.le_of_ble_eq_true rfl) rfl (tX1_paysAlone h)
theorem btX1_leastDishonestBelief_2 {l : Launch} {G : Gt} {d : Nat} {t0 : Nat} {u : Mem} {s1 : Int32} {y : (Int32) ⊕ ((Unit) ⊕ (Int32))} {o : Outcome} {u' : Mem} (h : bX1_leastDishonestBelief_2 t0 u s1 = some y) (k0 : ∀ s' : Int32, y = .inl s' → Rn l G iX1_leastDishonestBelief (d + 2) 2 [(0, rv (some t0)), (1, .int s')] [] u o u') (k1 : ∀ r : Unit, y = .inr (.inl r) → Rn l G iX1_leastDishonestBelief (d + 2) 24 [] [] u o u') (k2 : ∀ r : Int32, y = .inr (.inr (r)) → Rn l G iX1_leastDishonestBelief (d + 2) 16 [(1, .int r)] [] u o u') : Rn l G iX1_leastDishonestBelief (d + 2) 2 [(0, rv (some t0)), (1, .int s1)] [] u o u' := by
  unfold bX1_leastDishonestBelief_2 at h
  refine rn_iload_n (pc := 2) 1 dX1_leastDishonestBelief_2 rfl rfl ?_
  refine rn_bipush (pc := 3) (v := 11) dX1_leastDishonestBelief_3 (by decide) ?_
  rcases if_elim h with ⟨c1, h1⟩ | ⟨c1, h1⟩
  · refine rn_ige_f (pc := 5) 24 dX1_leastDishonestBelief_5 (by decide) c1 ?_
    refine rn_aload_n (pc := 8) 0 dX1_leastDishonestBelief_8 rfl rfl ?_
    refine rn_iload_n (pc := 9) 1 dX1_leastDishonestBelief_9 rfl rfl ?_
    obtain ⟨b2, hb2, h2⟩ := bnd_some h1
    obtain ⟨qb2, kb2⟩ := chk_elim hb2
    cases qb2
    obtain ⟨v3, hv3, h3⟩ := bnd_some h2
    refine rn_callV (pc := 10) (n := 1) (As := [.int s1]) (rest := []) (eX1_paysAlone (d := d + 0) hv3) (by omega) okX1 kb2 tw_758 tw_74 tw_756 tw_757 tw_18 (by decide +kernel) rfl (Nat.le_of_ble_eq_true rfl) dX1_leastDishonestBelief_10 rfl ?_
    rcases if_elim h3 with ⟨c4, h4⟩ | ⟨c4, h4⟩
    · refine rn_zne_f (pc := 13) 18 dX1_leastDishonestBelief_13 (by decide) c4 ?_
      cases h4
      exact rn_sub [1] rfl (k2 _ rfl)
    · refine rn_zne_t (pc := 13) (tgt := 18) dX1_leastDishonestBelief_13 (by decide) c4 ?_
      obtain ⟨x5, ex5, h5⟩ := nm_elim h4
      refine rn_iinc (pc := 18) (v := x5) (lv' := [(1, .int x5), (0, rv (some t0))]) 1 dX1_leastDishonestBelief_18 rfl (by rw [ex5]; rfl) (by decide) rfl ?_
      refine rn_goto (pc := 21) (tgt := 2) dX1_leastDishonestBelief_21 (by decide) ?_
      cases h5
      exact rn_sub [1, 0] rfl (k0 _ rfl)
  · refine rn_ige_t (pc := 5) (tgt := 24) dX1_leastDishonestBelief_5 (by decide) c1 ?_
    cases h1
    exact rn_sub [] rfl (k1 _ rfl)
theorem lX1_leastDishonestBelief_2 {l : Launch} {G : Gt} {d : Nat} {t0 : Nat} {u : Mem} {N : Nat} {s0 : Int32} {r : (Unit) ⊕ (Int32)} {o : Outcome} {u' : Mem} (h : lp (fun s : Int32 => bX1_leastDishonestBelief_2 t0 u s) N s0 = some r) (k1 : ∀ r' : Unit, r = .inl r' → Rn l G iX1_leastDishonestBelief (d + 2) 24 [] [] u o u') (k2 : ∀ r' : Int32, r = .inr (r') → Rn l G iX1_leastDishonestBelief (d + 2) 16 [(1, .int r')] [] u o u') : Rn l G iX1_leastDishonestBelief (d + 2) 2 [(0, rv (some t0)), (1, .int s0)] [] u o u' :=
  lp_run (P := fun s : Int32 => Rn l G iX1_leastDishonestBelief (d + 2) 2 [(0, rv (some t0)), (1, .int s)] [] u o u') (E := fun r => (∀ r' : Unit, r = .inl r' → Rn l G iX1_leastDishonestBelief (d + 2) 24 [] [] u o u') ∧ (∀ r' : Int32, r = .inr (r') → Rn l G iX1_leastDishonestBelief (d + 2) 16 [(1, .int r')] [] u o u')) (fun s y hy k0 kE => btX1_leastDishonestBelief_2 hy (fun s' e => k0 s' e) (fun r e => (kE _ e).1 r rfl) (fun r e => (kE _ e).2 r rfl)) N s0 r h ⟨k1, k2⟩
theorem tX1_leastDishonestBelief {l : Launch} {G : Gt} {d : Nat} {t0 : Nat} {u : Mem} {y : Int32} (h : fX1_leastDishonestBelief t0 u = some y) : Rn l G iX1_leastDishonestBelief (d + 2) 0 [(0, rv (some t0))] [] u (.returned (some (.int y))) u := by
  unfold fX1_leastDishonestBelief at h
  refine rn_iconst (pc := 0) (v := 0) dX1_leastDishonestBelief_0 (by decide) ?_
  refine rn_istore_n (pc := 1) (lv' := [(1, .int (0 : Int32)), (0, rv (some t0))]) dX1_leastDishonestBelief_1 rfl (by decide) rfl ?_
  obtain ⟨r6, hr6, h1⟩ := bnd_some h
  rcases r6 with r7 | r8
  · refine rn_sub [1, 0] rfl (lX1_leastDishonestBelief_2 hr6 (fun _ hq => ?_) (fun _ hq => by cases hq))
    cases hq
    have h2 := sumE_l h1
    refine rn_iconst (pc := 24) (v := -1) dX1_leastDishonestBelief_24 (by decide) ?_
    cases h2
    exact rn_iret (pc := 25) rfl dX1_leastDishonestBelief_25
  · refine rn_sub [1, 0] rfl (lX1_leastDishonestBelief_2 hr6 (fun _ hq => by cases hq) (fun _ hq => ?_))
    cases hq
    have h3 := sumE_r h1
    refine rn_iload_n (pc := 16) 0 dX1_leastDishonestBelief_16 rfl rfl ?_
    cases h3
    exact rn_iret (pc := 17) rfl dX1_leastDishonestBelief_17
theorem eX1_leastDishonestBelief {l : Launch} {G : Gt} {d : Nat} {t0 : Nat} {u : Mem} {y : Int32} (h : fX1_leastDishonestBelief t0 u = some y) : Ex l G iX1_leastDishonestBelief (d + 2) [rv (some t0)] u (.returned (some (.int y))) u := Ex.of (by decide +kernel) (by decide) (Nat.le_of_ble_eq_true rfl) rfl (tX1_leastDishonestBelief h)
theorem tX2_init {l : Launch} {G : Gt} {d : Nat} {t0 : Nat} {p1 : Option Nat} {p2 : Option Nat} {p3 : Option Nat} {u : Mem} {y : Mem} (h : fX2_init t0 p1 p2 p3 u = some y) : Rn l G iX2_init (d + 1) 0 [(0, rv (some t0)), (1, rv p1), (2, rv p2), (3, rv p3)] [] u (.returned none) y := by
  unfold fX2_init at h
  refine rn_aload_n (pc := 0) 0 dX2_init_0 rfl rfl ?_
  refine rn_objInit (pc := 1) (by omega) tw_325 tw_97 tw_98 (by decide) dX2_init_1 ?_
  refine rn_aload_n (pc := 4) 0 dX2_init_4 rfl rfl ?_
  refine rn_sipush (pc := 5) (v := 400) dX2_init_5 (by decide) ?_
  obtain ⟨a1, u2, ha1, h1⟩ := bnd2_some h
  refine rn_newa (pc := 8) (N := 400) (atype := .int) (by decide) rfl tw_172 (by decide) (by decide) (by decide) dX2_init_8 ha1 ?_
  obtain ⟨u3, hu3, h2⟩ := bnd_some h1
  refine rn_putR (pc := 10) (k := 5) okX2 (by decide) tw_333 (Or.inr ⟨rfl, rfl, rfl⟩) rfl dX2_init_10 hu3 ?_
  refine rn_aload_n (pc := 13) 0 dX2_init_13 rfl rfl ?_
  refine rn_sipush (pc := 14) (v := 400) dX2_init_14 (by decide) ?_
  obtain ⟨a4, u5, ha4, h3⟩ := bnd2_some h2
  refine rn_newa (pc := 17) (N := 400) (atype := .int) (by decide) rfl tw_172 (by decide) (by decide) (by decide) dX2_init_17 ha4 ?_
  obtain ⟨u6, hu6, h4⟩ := bnd_some h3
  refine rn_putR (pc := 19) (k := 6) okX2 (by decide) tw_334 (Or.inr ⟨rfl, rfl, rfl⟩) rfl dX2_init_19 hu6 ?_
  refine rn_aload_n (pc := 22) 0 dX2_init_22 rfl rfl ?_
  refine rn_sipush (pc := 23) (v := 1200) dX2_init_23 (by decide) ?_
  obtain ⟨a7, u8, ha7, h5⟩ := bnd2_some h4
  refine rn_newa (pc := 26) (N := 1200) (atype := .int) (by decide) rfl tw_172 (by decide) (by decide) (by decide) dX2_init_26 ha7 ?_
  obtain ⟨u9, hu9, h6⟩ := bnd_some h5
  refine rn_putR (pc := 28) (k := 7) okX2 (by decide) tw_335 (Or.inr ⟨rfl, rfl, rfl⟩) rfl dX2_init_28 hu9 ?_
  refine rn_aload_n (pc := 31) 0 dX2_init_31 rfl rfl ?_
  refine rn_bipush (pc := 32) (v := 20) dX2_init_32 (by decide) ?_
  obtain ⟨a10, u11, ha10, h7⟩ := bnd2_some h6
  refine rn_newa (pc := 34) (N := 20) (atype := .int) (by decide) rfl tw_172 (by decide) (by decide) (by decide) dX2_init_34 ha10 ?_
  obtain ⟨u12, hu12, h8⟩ := bnd_some h7
  refine rn_putR (pc := 36) (k := 8) okX2 (by decide) tw_336 (Or.inr ⟨rfl, rfl, rfl⟩) rfl dX2_init_36 hu12 ?_
  refine rn_aload_n (pc := 39) 0 dX2_init_39 rfl rfl ?_
  refine rn_bipush (pc := 40) (v := 11) dX2_init_40 (by decide) ?_
  obtain ⟨a13, u14, ha13, h9⟩ := bnd2_some h8
  refine rn_newa (pc := 42) (N := 11) (atype := .int) (by decide) rfl tw_172 (by decide) (by decide) (by decide) dX2_init_42 ha13 ?_
  obtain ⟨u15, hu15, h10⟩ := bnd_some h9
  refine rn_putR (pc := 44) (k := 9) okX2 (by decide) tw_337 (Or.inr ⟨rfl, rfl, rfl⟩) rfl dX2_init_44 hu15 ?_
  refine rn_aload_n (pc := 47) 0 dX2_init_47 rfl rfl ?_
  refine rn_iconst (pc := 48) (v := -1) dX2_init_48 (by decide) ?_
  obtain ⟨u16, hu16, h11⟩ := bnd_some h10
  refine rn_putI (pc := 49) (k := 10) okX2 (by decide) tw_338 (Or.inl rfl) (Or.inl rfl) dX2_init_49 hu16 ?_
  refine rn_aload_n (pc := 52) 0 dX2_init_52 rfl rfl ?_
  refine rn_aload_n (pc := 53) 1 dX2_init_53 rfl rfl ?_
  obtain ⟨u17, hu17, h12⟩ := bnd_some h11
  refine rn_putR (pc := 54) (k := 2) okX2 (by decide) tw_330 (Or.inr ⟨rfl, rfl, rfl⟩) rfl dX2_init_54 hu17 ?_
  refine rn_aload_n (pc := 57) 0 dX2_init_57 rfl rfl ?_
  refine rn_aload_n (pc := 58) 2 dX2_init_58 rfl rfl ?_
  obtain ⟨u18, hu18, h13⟩ := bnd_some h12
  refine rn_putR (pc := 59) (k := 3) okX2 (by decide) tw_331 (Or.inr ⟨rfl, rfl, rfl⟩) rfl dX2_init_59 hu18 ?_
  refine rn_aload_n (pc := 62) 0 dX2_init_62 rfl rfl ?_
  refine rn_aload_n (pc := 63) 3 dX2_init_63 rfl rfl ?_
  obtain ⟨u19, hu19, h14⟩ := bnd_some h13
  refine rn_putR (pc := 64) (k := 4) okX2 (by decide) tw_332 (Or.inr ⟨rfl, rfl, rfl⟩) rfl dX2_init_64 hu19 ?_
  cases h14
  exact rn_vret (pc := 67) rfl dX2_init_67
theorem eX2_init {l : Launch} {G : Gt} {d : Nat} {t0 : Nat} {p1 : Option Nat} {p2 : Option Nat} {p3 : Option Nat} {u : Mem} {y : Mem} (h : fX2_init t0 p1 p2 p3 u = some y) : Ex l G iX2_init (d + 1) [rv (some t0), rv p1, rv p2, rv p3] u (.returned none) y := Ex.of (by decide +kernel) (by decide) (by cases p1 <;> cases p2 <;> cases p3 <;> exact Nat.le_of_ble_eq_true rfl) (by cases p1 <;> cases p2 <;> cases p3 <;> rfl) (tX2_init h)
theorem tX7_tellsCopy {l : Launch} {G : Gt} {d : Nat} {t0 : Nat} {u : Mem} {y : Int32} (h : fX7_tellsCopy t0 u = some y) : Rn l G iX7_tellsCopy d 0 [(0, rv (some t0))] [] u (.returned (some (.int y))) u := by
  unfold fX7_tellsCopy at h
  refine rn_aload_n (pc := 0) 0 dX7_tellsCopy_0 rfl rfl ?_
  obtain ⟨v1, hv1, h1⟩ := bnd_some h
  refine rn_getI (pc := 1) (k := 4) okX7 (by decide) tw_145 rfl dX7_tellsCopy_1 hv1 ?_
  refine rn_iconst (pc := 4) (v := -1) dX7_tellsCopy_4 (by decide) ?_
  rcases if_elim h1 with ⟨c2, h2⟩ | ⟨c2, h2⟩
  · refine rn_ieq_t (pc := 5) (tgt := 12) dX7_tellsCopy_5 (by decide) c2 ?_
    refine rn_iconst (pc := 12) (v := 0) dX7_tellsCopy_12 (by decide) ?_
    cases h2
    exact rn_zret (pc := 13) (by decide) rfl dX7_tellsCopy_13
  · refine rn_ieq_f (pc := 5) 12 dX7_tellsCopy_5 (by decide) c2 ?_
    refine rn_iconst (pc := 8) (v := 1) dX7_tellsCopy_8 (by decide) ?_
    refine rn_goto (pc := 9) (tgt := 13) dX7_tellsCopy_9 (by decide) ?_
    cases h2
    exact rn_zret (pc := 13) (by decide) rfl dX7_tellsCopy_13
theorem eX7_tellsCopy {l : Launch} {G : Gt} {d : Nat} {t0 : Nat} {u : Mem} {y : Int32} (h : fX7_tellsCopy t0 u = some y) : Ex l G iX7_tellsCopy d [rv (some t0)] u (.returned (some (.int y))) u := Ex.of (by decide +kernel) (by decide) (Nat.le_of_ble_eq_true rfl) rfl (tX7_tellsCopy h)
theorem tX2_isCopy {l : Launch} {G : Gt} {d : Nat} {t0 : Nat} {p1 : Option Nat} {p2 : Int32} {u : Mem} {y : Int32} (h : fX2_isCopy t0 p1 p2 u = some y) : Rn l G iX2_isCopy (d + 1) 0 [(0, rv (some t0)), (1, rv p1), (2, .int p2)] [] u (.returned (some (.int y))) u := by
  unfold fX2_isCopy at h
  refine rn_aload_n (pc := 0) 0 dX2_isCopy_0 rfl rfl ?_
  obtain ⟨v1, hv1, h1⟩ := bnd_some h
  refine rn_getR (pc := 1) (k := 2) okX2 (by decide) tw_330 rfl dX2_isCopy_1 hv1 ?_
  refine rn_iload_n (pc := 4) 2 dX2_isCopy_4 rfl rfl ?_
  refine rn_aload_n (pc := 5) 1 dX2_isCopy_5 rfl rfl ?_
  obtain ⟨v2, hv2, h2⟩ := bnd_some h1
  refine rn_getI (pc := 6) (k := 1) okX3 (by decide) tw_620 rfl dX2_isCopy_6 hv2 ?_
  obtain ⟨v3, hv3, h3⟩ := bnd_some h2
  refine rn_callSN (pc := 9) (host := "ForeBook") (n := 2) (As := [.int p2, .int v2]) (rest := [rv v1]) (eX10_cell (d := d + 0) hv3) (by omega) tw_604 tw_68 (by decide +kernel) tw_603 (by decide +kernel) rfl (cat_le8 (Nat.le_of_ble_eq_true rfl)) dX2_isCopy_9 rfl ?_
  refine rn_aload_n (pc := 12) 1 dX2_isCopy_12 rfl rfl ?_
  obtain ⟨v4, hv4, h4⟩ := bnd_some h3
  refine rn_getI (pc := 13) (k := 2) okX3 (by decide) tw_623 rfl dX2_isCopy_13 hv4 ?_
  refine rn_iconst (pc := 16) (v := 1) dX2_isCopy_16 (by decide) ?_
  refine rn_isub (pc := 17) dX2_isCopy_17 ?_
  obtain ⟨b5, hb5, h5⟩ := bnd_some h4
  obtain ⟨qb5, kb5⟩ := chk_elim hb5
  subst qb5
  obtain ⟨v6, hv6, h6⟩ := bnd_some h5
  refine rn_callV (pc := 18) (n := 2) (As := [.int v3, .int (v4 - (1 : Int32))]) (rest := []) (eX0_latestUpTo (d := d + 0) hv6) (by omega) okX0 kb5 tw_654 tw_72 tw_774 tw_652 tw_653 (by decide +kernel) rfl (Nat.le_of_ble_eq_true rfl) dX2_isCopy_18 rfl ?_
  refine rn_astore_n (pc := 21) (lv' := [(3, rv v6), (0, rv (some t0)), (1, rv p1), (2, .int p2)]) dX2_isCopy_21 rfl (by decide) rfl ?_
  refine rn_aload_n (pc := 22) 0 dX2_isCopy_22 rfl rfl ?_
  rcases if_elim h6 with ⟨c7, h7⟩ | ⟨c7, h7⟩
  · refine rn_ifnull_t (pc := 23) (tgt := 60) dX2_isCopy_23 (by decide) c7 ?_
    refine rn_iconst (pc := 60) (v := 0) dX2_isCopy_60 (by decide) ?_
    cases h7
    exact rn_zret (pc := 61) (by decide) rfl dX2_isCopy_61
  · refine rn_ifnull_f (pc := 23) dX2_isCopy_23 c7 ?_
    refine rn_aload_n (pc := 26) 0 dX2_isCopy_26 rfl rfl ?_
    obtain ⟨v8, hv8, h8⟩ := bnd_some h7
    refine rn_getI (pc := 27) (k := 3) okX3 (by decide) tw_627 rfl dX2_isCopy_27 hv8 ?_
    refine rn_aload_n (pc := 30) 2 dX2_isCopy_30 rfl rfl ?_
    obtain ⟨v9, hv9, h9⟩ := bnd_some h8
    refine rn_getI (pc := 31) (k := 3) okX3 (by decide) tw_627 rfl dX2_isCopy_31 hv9 ?_
    rcases if_elim h9 with ⟨c10, h10⟩ | ⟨c10, h10⟩
    · refine rn_ine_f (pc := 34) 60 dX2_isCopy_34 (by decide) c10 ?_
      refine rn_aload_n (pc := 37) 2 dX2_isCopy_37 rfl rfl ?_
      obtain ⟨v11, hv11, h11⟩ := bnd_some h10
      refine rn_getI (pc := 38) (k := 2) okX3 (by decide) tw_623 rfl dX2_isCopy_38 hv11 ?_
      refine rn_aload_n (pc := 41) 0 dX2_isCopy_41 rfl rfl ?_
      obtain ⟨v12, hv12, h12⟩ := bnd_some h11
      refine rn_getI (pc := 42) (k := 2) okX3 (by decide) tw_623 rfl dX2_isCopy_42 hv12 ?_
      refine rn_isub (pc := 45) dX2_isCopy_45 ?_
      refine rn_aload_n (pc := 46) 1 dX2_isCopy_46 rfl rfl ?_
      obtain ⟨v13, hv13, h13⟩ := bnd_some h12
      refine rn_getR (pc := 47) (k := 3) okX2 (by decide) tw_331 rfl dX2_isCopy_47 hv13 ?_
      obtain ⟨v14, hv14, h14⟩ := bnd_some h13
      refine rn_getI (pc := 50) (k := 4) okX7 (by decide) tw_146 rfl dX2_isCopy_50 hv14 ?_
      rcases if_elim h14 with ⟨c15, h15⟩ | ⟨c15, h15⟩
      · refine rn_igt_t (pc := 53) (tgt := 60) dX2_isCopy_53 (by decide) c15 ?_
        refine rn_iconst (pc := 60) (v := 0) dX2_isCopy_60 (by decide) ?_
        cases h15
        exact rn_zret (pc := 61) (by decide) rfl dX2_isCopy_61
      · refine rn_igt_f (pc := 53) 60 dX2_isCopy_53 (by decide) c15 ?_
        refine rn_iconst (pc := 56) (v := 1) dX2_isCopy_56 (by decide) ?_
        refine rn_goto (pc := 57) (tgt := 61) dX2_isCopy_57 (by decide) ?_
        cases h15
        exact rn_zret (pc := 61) (by decide) rfl dX2_isCopy_61
    · refine rn_ine_t (pc := 34) (tgt := 60) dX2_isCopy_34 (by decide) c10 ?_
      refine rn_iconst (pc := 60) (v := 0) dX2_isCopy_60 (by decide) ?_
      cases h10
      exact rn_zret (pc := 61) (by decide) rfl dX2_isCopy_61
theorem eX2_isCopy {l : Launch} {G : Gt} {d : Nat} {t0 : Nat} {p1 : Option Nat} {p2 : Int32} {u : Mem} {y : Int32} (h : fX2_isCopy t0 p1 p2 u = some y) : Ex l G iX2_isCopy (d + 1) [rv (some t0), rv p1, .int p2] u (.returned (some (.int y))) u := Ex.of (by decide +kernel) (by decide) (by cases p1 <;> exact Nat.le_of_ble_eq_true rfl) (by cases p1 <;> rfl) (tX2_isCopy h)
theorem tX10_pair {l : Launch} {G : Gt} {d : Nat} {p0 : Int32} {p1 : Int32} {u : Mem} {y : Int32} (h : fX10_pair p0 p1 u = some y) : Rn l G iX10_pair d 0 [(0, .int p0), (1, .int p1)] [] u (.returned (some (.int y))) u := by
  unfold fX10_pair at h
  refine rn_iload_n (pc := 0) 0 dX10_pair_0 rfl rfl ?_
  refine rn_bipush (pc := 1) (v := 20) dX10_pair_1 (by decide) ?_
  refine rn_imul (pc := 3) dX10_pair_3 ?_
  refine rn_iload_n (pc := 4) 1 dX10_pair_4 rfl rfl ?_
  refine rn_iadd (pc := 5) dX10_pair_5 ?_
  cases h
  exact rn_iret (pc := 6) rfl dX10_pair_6
theorem eX10_pair {l : Launch} {G : Gt} {d : Nat} {p0 : Int32} {p1 : Int32} {u : Mem} {y : Int32} (h : fX10_pair p0 p1 u = some y) : Ex l G iX10_pair d [.int p0, .int p1] u (.returned (some (.int y))) u := Ex.of (by decide +kernel) (by decide) (Nat.le_of_ble_eq_true rfl) rfl (tX10_pair h)
theorem tX2_noteCopy {l : Launch} {G : Gt} {d : Nat} {t0 : Nat} {p1 : Option Nat} {p2 : Int32} {u : Mem} {y : Mem} (h : fX2_noteCopy t0 p1 p2 u = some y) : Rn l G iX2_noteCopy (d + 2) 0 [(0, rv (some t0)), (1, rv p1), (2, .int p2)] [] u (.returned none) y := by
  unfold fX2_noteCopy at h
  refine rn_aload_n (pc := 0) 1 dX2_noteCopy_0 rfl rfl ?_
  rcases if_elim h with ⟨c1, h1⟩ | ⟨c1, h1⟩
  · refine rn_ifnull_t (pc := 1) (tgt := 21) dX2_noteCopy_1 (by decide) c1 ?_
    cases h1
    exact rn_vret (pc := 21) rfl dX2_noteCopy_21
  · refine rn_ifnull_f (pc := 1) dX2_noteCopy_1 c1 ?_
    refine rn_aload_n (pc := 4) 1 dX2_noteCopy_4 rfl rfl ?_
    obtain ⟨v2, hv2, h2⟩ := bnd_some h1
    refine rn_getI (pc := 5) (k := 0) okX3 (by decide) tw_618 rfl dX2_noteCopy_5 hv2 ?_
    refine rn_iload_n (pc := 8) 2 dX2_noteCopy_8 rfl rfl ?_
    rcases if_elim h2 with ⟨c3, h3⟩ | ⟨c3, h3⟩
    · refine rn_ieq_t (pc := 9) (tgt := 21) dX2_noteCopy_9 (by decide) c3 ?_
      cases h3
      exact rn_vret (pc := 21) rfl dX2_noteCopy_21
    · refine rn_ieq_f (pc := 9) 21 dX2_noteCopy_9 (by decide) c3 ?_
      refine rn_aload_n (pc := 12) 0 dX2_noteCopy_12 rfl rfl ?_
      refine rn_aload_n (pc := 13) 1 dX2_noteCopy_13 rfl rfl ?_
      refine rn_iload_n (pc := 14) 2 dX2_noteCopy_14 rfl rfl ?_
      obtain ⟨b4, hb4, h4⟩ := bnd_some h3
      obtain ⟨qb4, kb4⟩ := chk_elim hb4
      cases qb4
      obtain ⟨v5, hv5, h5⟩ := bnd_some h4
      refine rn_callV (pc := 15) (n := 2) (As := [rv p1, .int p2]) (rest := []) (eX2_isCopy (d := d + 0) hv5) (by omega) okX2 kb4 tw_773 tw_75 tw_771 tw_772 tw_19 (by decide +kernel) rfl (Nat.le_of_ble_eq_true rfl) dX2_noteCopy_15 rfl ?_
      rcases if_elim h5 with ⟨c6, h6⟩ | ⟨c6, h6⟩
      · refine rn_zne_f (pc := 18) 22 dX2_noteCopy_18 (by decide) c6 ?_
        cases h6
        exact rn_vret (pc := 21) rfl dX2_noteCopy_21
      · refine rn_zne_t (pc := 18) (tgt := 22) dX2_noteCopy_18 (by decide) c6 ?_
        refine rn_aload_n (pc := 22) 1 dX2_noteCopy_22 rfl rfl ?_
        obtain ⟨v7, hv7, h7⟩ := bnd_some h6
        refine rn_getI (pc := 23) (k := 0) okX3 (by decide) tw_618 rfl dX2_noteCopy_23 hv7 ?_
        refine rn_iload_n (pc := 26) 2 dX2_noteCopy_26 rfl rfl ?_
        obtain ⟨v8, hv8, h8⟩ := bnd_some h7
        refine rn_callSN (pc := 27) (host := "ForeBook") (n := 2) (As := [.int v7, .int p2]) (rest := []) (eX10_pair (d := d + 1) hv8) (by omega) tw_793 tw_68 (by decide +kernel) tw_792 (by decide +kernel) rfl (Nat.le_of_ble_eq_true rfl) dX2_noteCopy_27 rfl ?_
        refine rn_istore_n (pc := 30) (lv' := [(3, .int v8), (0, rv (some t0)), (1, rv p1), (2, .int p2)]) dX2_noteCopy_30 rfl (by decide) rfl ?_
        refine rn_aload_n (pc := 31) 1 dX2_noteCopy_31 rfl rfl ?_
        obtain ⟨v9, hv9, h9⟩ := bnd_some h8
        refine rn_getR (pc := 32) (k := 6) okX2 (by decide) tw_334 rfl dX2_noteCopy_32 hv9 ?_
        refine rn_iload_n (pc := 35) 0 dX2_noteCopy_35 rfl rfl ?_
        refine rn_dup2 (pc := 36) dX2_noteCopy_36 rfl (rv_cat _) ?_
        obtain ⟨v10, hv10, h10⟩ := bnd_some h9
        refine rn_iald (pc := 37) dX2_noteCopy_37 hv10 ?_
        refine rn_iconst (pc := 38) (v := 1) dX2_noteCopy_38 (by decide) ?_
        refine rn_iadd (pc := 39) dX2_noteCopy_39 ?_
        obtain ⟨u11, hu11, h11⟩ := bnd_some h10
        refine rn_iast (pc := 40) dX2_noteCopy_40 hu11 ?_
        refine rn_aload_n (pc := 41) 1 dX2_noteCopy_41 rfl rfl ?_
        obtain ⟨v12, hv12, h12⟩ := bnd_some h11
        refine rn_getR (pc := 42) (k := 6) okX2 (by decide) tw_334 rfl dX2_noteCopy_42 hv12 ?_
        refine rn_iload_n (pc := 45) 0 dX2_noteCopy_45 rfl rfl ?_
        obtain ⟨v13, hv13, h13⟩ := bnd_some h12
        refine rn_iald (pc := 46) dX2_noteCopy_46 hv13 ?_
        refine rn_aload_n (pc := 47) 1 dX2_noteCopy_47 rfl rfl ?_
        obtain ⟨v14, hv14, h14⟩ := bnd_some h13
        refine rn_getR (pc := 48) (k := 3) okX2 (by decide) tw_331 rfl dX2_noteCopy_48 hv14 ?_
        obtain ⟨v15, hv15, h15⟩ := bnd_some h14
        refine rn_getI (pc := 51) (k := 5) okX7 (by decide) tw_150 rfl dX2_noteCopy_51 hv15 ?_
        rcases if_elim h15 with ⟨c16, h16⟩ | ⟨c16, h16⟩
        · refine rn_ine_f (pc := 54) 67 dX2_noteCopy_54 (by decide) c16 ?_
          refine rn_aload_n (pc := 57) 1 dX2_noteCopy_57 rfl rfl ?_
          obtain ⟨v17, hv17, h17⟩ := bnd_some h16
          refine rn_getR (pc := 58) (k := 5) okX2 (by decide) tw_333 rfl dX2_noteCopy_58 hv17 ?_
          refine rn_iload_n (pc := 61) 0 dX2_noteCopy_61 rfl rfl ?_
          refine rn_aload_n (pc := 62) 2 dX2_noteCopy_62 rfl rfl ?_
          obtain ⟨v18, hv18, h18⟩ := bnd_some h17
          refine rn_getI (pc := 63) (k := 2) okX3 (by decide) tw_623 rfl dX2_noteCopy_63 hv18 ?_
          obtain ⟨u19, hu19, h19⟩ := bnd_some h18
          refine rn_iast (pc := 66) dX2_noteCopy_66 hu19 ?_
          cases h19
          exact rn_vret (pc := 67) rfl dX2_noteCopy_67
        · refine rn_ine_t (pc := 54) (tgt := 67) dX2_noteCopy_54 (by decide) c16 ?_
          cases h16
          exact rn_vret (pc := 67) rfl dX2_noteCopy_67
theorem eX2_noteCopy {l : Launch} {G : Gt} {d : Nat} {t0 : Nat} {p1 : Option Nat} {p2 : Int32} {u : Mem} {y : Mem} (h : fX2_noteCopy t0 p1 p2 u = some y) : Ex l G iX2_noteCopy (d + 2) [rv (some t0), rv p1, .int p2] u (.returned none) y := Ex.of (by decide +kernel) (by decide) (by cases p1 <;> exact Nat.le_of_ble_eq_true rfl) (by cases p1 <;> rfl) (tX2_noteCopy h)
