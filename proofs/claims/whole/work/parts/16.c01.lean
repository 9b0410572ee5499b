abbrev iX2_findCopiers : MI := (yX2_findCopiers, cX2_findCopiers, 3, (Option.none : Option FieldType))
def bX2_findCopiers_44 (t0 : Nat) (i1 : Int32) (s2 : Int32) (u : Mem) : Option ((Int32 × Mem) ⊕ (Mem)) :=
  if s2 < (20 : Int32) then
    (gfR u (some t0) 2 2).bind fun v13 =>
    (gfR u v13 0 2).bind fun v14 =>
    (alR u v14 25 i1).bind fun v15 =>
    (chk u (some t0) 2).bind fun b16 =>
    (fX2_noteCopy t0 v15 s2 u).bind fun u17 =>
    nm (s2 + 1 : Int32) fun x18 =>
    some (.inl (x18, u17))
  else
    some (.inr u)
def bX2_findCopiers_31 (t0 : Nat) (s1 : Int32) (u : Mem) : Option ((Int32 × Mem) ⊕ (Mem)) :=
  (gfR u (some t0) 2 2).bind fun v9 =>
  (gfI u v9 0 4).bind fun v10 =>
  if s1 < v10 then
    (lp (fun s : Int32 × Mem => bX2_findCopiers_44 t0 s1 s.1 s.2) FU ((0 : Int32), u)).bind fun r19 =>
    nm (s1 + 1 : Int32) fun x20 =>
    some (.inl (x20, r19))
  else
    some (.inr u)
def fX2_findCopiers (t0 : Nat) (u : Mem) : Option (Mem) :=
  (gfR u (some t0) 2 5).bind fun v1 =>
  (fJ7_fill_53178 v1 (1000 : Int32) u).bind fun u2 =>
  (gfR u2 (some t0) 2 3).bind fun v3 =>
  (chk u2 v3 7).bind fun b4 =>
  (fX7_tellsCopy b4 u2).bind fun v5 =>
  if v5 = 0 then
    some u2
  else
    (gfR u2 (some t0) 2 6).bind fun v7 =>
    (fJ7_fill_53178 v7 (0 : Int32) u2).bind fun u8 =>
    (lp (fun s : Int32 × Mem => bX2_findCopiers_31 t0 s.1 s.2) FU ((0 : Int32), u8)).bind fun r21 =>
    some r21
abbrev iX2_refresh : MI := (yX2_refresh, cX2_refresh, 1, (Option.none : Option FieldType))
def fX2_refresh (t0 : Nat) (u : Mem) : Option (Mem) :=
  (gfR u (some t0) 2 4).bind fun v1 =>
  (chk u v1 1).bind fun b2 =>
  (fX1_refresh b2 u).bind fun u3 =>
  (gfI u3 (some t0) 2 10).bind fun v4 =>
  (gfR u3 (some t0) 2 2).bind fun v5 =>
  (gfI u3 v5 0 5).bind fun v6 =>
  if v4 = v6 then
    some u3
  else
    (gfR u3 (some t0) 2 2).bind fun v8 =>
    (gfI u3 v8 0 5).bind fun v9 =>
    (pfI u3 (some t0) 2 10 v9).bind fun u10 =>
    (gfR u10 (some t0) 2 7).bind fun v11 =>
    (fJ7_fill_53178 v11 (-2 : Int32) u10).bind fun u12 =>
    (chk u12 (some t0) 2).bind fun b13 =>
    (fX2_findCopiers t0 u12).bind fun u14 =>
    some u14
abbrev iX2_countCopies : MI := (yX2_countCopies, cX2_countCopies, 6, (some .int))
def bX2_countCopies_5 (t0 : Nat) (i1 : Int32) (i2 : Int32) (u : Mem) (s3 : Int32) (s4 : Int32) : Option ((Int32 × Int32) ⊕ (Int32)) :=
  (gfR u (some t0) 2 2).bind fun v1 =>
  (gfI u v1 0 4).bind fun v2 =>
  if s4 < v2 then
    (gfR u (some t0) 2 2).bind fun v4 =>
    (gfR u v4 0 2).bind fun v5 =>
    (alR u v5 25 s4).bind fun v6 =>
    if v6 = none then
      nm (s4 + 1 : Int32) fun x8 =>
      some (.inl (s3, x8))
    else
      (gfI u v6 3 0).bind fun v9 =>
      if v9 = i1 then
        (chk u (some t0) 2).bind fun b11 =>
        (fX2_isCopy t0 v6 i2 u).bind fun v12 =>
        if v12 = 0 then
          nm (s4 + 1 : Int32) fun x14 =>
          some (.inl (s3, x14))
        else
          nm (s3 + 1 : Int32) fun x15 =>
          nm (s4 + 1 : Int32) fun x16 =>
          some (.inl (x15, x16))
      else
        nm (s4 + 1 : Int32) fun x17 =>
        some (.inl (s3, x17))
  else
    some (.inr s3)
def fX2_countCopies (t0 : Nat) (p1 : Int32) (p2 : Int32) (u : Mem) : Option (Int32) :=
  (lp (fun s : Int32 × Int32 => bX2_countCopies_5 t0 p1 p2 u s.1 s.2) FU ((0 : Int32), (0 : Int32))).bind fun r18 =>
  some r18
abbrev iX7_weighsByPast : MI := (yX7_weighsByPast, cX7_weighsByPast, 1, (some .boolean))
def fX7_weighsByPast (t0 : Nat) (u : Mem) : Option (Int32) :=
  (gfI u (some t0) 7 3).bind fun v1 =>
  if v1 = (1 : Int32) then
    some (1 : Int32)
  else
    some (0 : Int32)
abbrev iX2_weightOn : MI := (yX2_weightOn, cX2_weightOn, 8, (some .int))
def bX2_weightOn_20 (t0 : Nat) (i1 : Int32) (i2 : Int32) (u : Mem) (s3 : Int32) (s4 : Int32) (s5 : Int32) : Option ((Int32 × Int32 × Int32) ⊕ (Int32 × Int32)) :=
  (gfR u (some t0) 2 2).bind fun v5 =>
  (gfI u v5 0 3).bind fun v6 =>
  if s5 < v6 then
    (gfR u (some t0) 2 2).bind fun v8 =>
    (gfR u v8 0 0).bind fun v9 =>
    (alR u v9 24 s5).bind fun v10 =>
    (fX10_cell i1 s5 u).bind fun v11 =>
    (chk u v10 5).bind fun b12 =>
    (fX5_isSettled b12 u).bind fun v13 =>
    if v13 = 0 then
      nm (s5 + 1 : Int32) fun x15 =>
      some (.inl (s3, s4, x15))
    else
      (gfI u (some b12) 5 3).bind fun v16 =>
      if v16 < i2 then
        (gfR u (some t0) 2 4).bind fun v18 =>
        (chk u v18 1).bind fun b19 =>
        (fX1_doesCount b19 v11 u).bind fun v20 =>
        if v20 = 0 then
          nm (s5 + 1 : Int32) fun x22 =>
          some (.inl (s3, s4, x22))
        else
          (gfR u (some t0) 2 4).bind fun v23 =>
          (gfR u v23 1 0).bind fun v24 =>
          (alI u v24 20 v11).bind fun v25 =>
          (gfR u (some t0) 2 3).bind fun v26 =>
          (gfI u (some b12) 5 2).bind fun v27 =>
          (chk u v26 7).bind fun b28 =>
          (fX7_cost b28 v27 (5 : Int32) u).bind fun v29 =>
          nm (s3 + (v25 * v29) : Int32) fun x30 =>
          (gfR u (some t0) 2 4).bind fun v31 =>
          (gfR u v31 1 1).bind fun v32 =>
          (alI u v32 20 v11).bind fun v33 =>
          nm (s4 + v33 : Int32) fun x34 =>
          nm (s5 + 1 : Int32) fun x35 =>
          some (.inl (x30, x34, x35))
      else
        nm (s5 + 1 : Int32) fun x36 =>
        some (.inl (s3, s4, x36))
  else
    some (.inr (s3, s4))
def fX2_weightOn (t0 : Nat) (p1 : Int32) (p2 : Int32) (u : Mem) : Option (Int32) :=
  (gfR u (some t0) 2 3).bind fun v1 =>
  (chk u v1 7).bind fun b2 =>
  (fX7_weighsByPast b2 u).bind fun v3 =>
  if v3 = 0 then
    some (1 : Int32)
  else
    (lp (fun s : Int32 × Int32 × Int32 => bX2_weightOn_20 t0 p1 p2 u s.1 s.2.1 s.2.2) FU ((0 : Int32), (0 : Int32), (0 : Int32))).bind fun r37 =>
    if r37.2 < r37.1 then
      (nz32 r37.1).bind fun z39 =>
      some ((1 : Int32) + (((100 : Int32) * (r37.1 - r37.2)) / r37.1))
    else
      some (1 : Int32)
abbrev iX2_copiesAHolder : MI := (yX2_copiesAHolder, cX2_copiesAHolder, 4, (some .boolean))
def bX2_copiesAHolder_2 (t0 : Nat) (i1 : Int32) (i2 : Int32) (u : Mem) (s3 : Int32) : Option ((Int32) ⊕ ((Unit) ⊕ (Unit))) :=
  if s3 < (20 : Int32) then
    (gfR u (some t0) 2 8).bind fun v2 =>
    (alI u v2 20 s3).bind fun v3 =>
    if v3 = (-1 : Int32) then
      nm (s3 + 1 : Int32) fun x5 =>
      some (.inl x5)
    else
      (gfR u (some t0) 2 5).bind fun v6 =>
      (fX10_pair i1 s3 u).bind fun v7 =>
      (alI u v6 20 v7).bind fun v8 =>
      if i2 < v8 then
        nm (s3 + 1 : Int32) fun x10 =>
        some (.inl x10)
      else
        some (.inr (.inr ()))
  else
    some (.inr (.inl ()))
def fX2_copiesAHolder (t0 : Nat) (p1 : Int32) (p2 : Int32) (u : Mem) : Option (Int32) :=
  (lp (fun s : Int32 => bX2_copiesAHolder_2 t0 p1 p2 u s) FU (0 : Int32)).bind fun r11 =>
  sumE r11 (fun r12 =>
    some (0 : Int32)) (fun r13 =>
    some (1 : Int32))
abbrev iX2_tenthAtHalf : MI := (yX2_tenthAtHalf, cX2_tenthAtHalf, 4, (some .int))
def bX2_tenthAtHalf_4 (t0 : Nat) (i1 : Int32) (u : Mem) (s2 : Int32) (s3 : Int32) : Option ((Int32 × Int32) ⊕ ((Unit) ⊕ (Int32))) :=
  if s3 < (11 : Int32) then
    (gfR u (some t0) 2 9).bind fun v2 =>
    (alI u v2 20 s3).bind fun v3 =>
    nm (s2 + v3 : Int32) fun x4 =>
    if ((2 : Int32) * x4) < i1 then
      nm (s3 + 1 : Int32) fun x6 =>
      some (.inl (x4, x6))
    else
      some (.inr (.inr s3))
  else
    some (.inr (.inl ()))
def fX2_tenthAtHalf (t0 : Nat) (p1 : Int32) (u : Mem) : Option (Int32) :=
  (lp (fun s : Int32 × Int32 => bX2_tenthAtHalf_4 t0 p1 u s.1 s.2) FU ((0 : Int32), (0 : Int32))).bind fun r7 =>
  sumE r7 (fun r8 =>
    some (10 : Int32)) (fun r9 =>
    some r9)
abbrev iX2_joinHeld : MI := (yX2_joinHeld, cX2_joinHeld, 6, (some .int))
def bX2_joinHeld_2 (t0 : Nat) (i1 : Int32) (i2 : Int32) (s3 : Int32) (u : Mem) : Option ((Int32 × Mem) ⊕ (Mem)) :=
  if s3 < (20 : Int32) then
    (gfR u (some t0) 2 8).bind fun v2 =>
    (gfR u (some t0) 2 2).bind fun v3 =>
    (chk u v3 0).bind fun b4 =>
    (fX0_heldTenth b4 s3 i1 i2 u).bind fun v5 =>
    (asI u v2 20 s3 v5).bind fun u6 =>
    nm (s3 + 1 : Int32) fun x7 =>
    some (.inl (x7, u6))
  else
    some (.inr u)
def bX2_joinHeld_43 (t0 : Nat) (i2 : Int32) (s3 : Int32) (s4 : Int32) (u : Mem) : Option ((Int32 × Int32 × Mem) ⊕ (Int32 × Mem)) :=
  if s4 < (20 : Int32) then
    (gfR u (some t0) 2 8).bind fun v12 =>
    (alI u v12 20 s4).bind fun v13 =>
    if v13 = (-1 : Int32) then
      nm (s4 + 1 : Int32) fun x15 =>
      some (.inl (s3, x15, u))
    else
      (chk u (some t0) 2).bind fun b16 =>
      (fX2_copiesAHolder t0 s4 i2 u).bind fun v17 =>
      if v17 = 0 then
        (chk u (some t0) 2).bind fun b19 =>
        (fX2_weightOn t0 s4 i2 u).bind fun v20 =>
        (gfR u (some t0) 2 9).bind fun v21 =>
        (gfR u (some t0) 2 8).bind fun v22 =>
        (alI u v22 20 s4).bind fun v23 =>
        (alI u v21 20 v23).bind fun v24 =>
        (asI u v21 20 v23 ((v24 + v20))).bind fun u25 =>
        nm (s3 + v20 : Int32) fun x26 =>
        nm (s4 + 1 : Int32) fun x27 =>
        some (.inl (x26, x27, u25))
      else
        nm (s4 + 1 : Int32) fun x28 =>
        some (.inl (s3, x28, u))
  else
    some (.inr (s3, u))
def fX2_joinHeld (t0 : Nat) (p1 : Int32) (p2 : Int32) (u : Mem) : Option (Int32 × Mem) :=
  (lp (fun s : Int32 × Mem => bX2_joinHeld_2 t0 p1 p2 s.1 s.2) FU ((0 : Int32), u)).bind fun r8 =>
  (gfR r8 (some t0) 2 9).bind fun v9 =>
  (fJ7_fill_53178 v9 (0 : Int32) r8).bind fun u10 =>
  (lp (fun s : Int32 × Int32 × Mem => bX2_joinHeld_43 t0 p2 s.1 s.2.1 s.2.2) FU ((0 : Int32), (0 : Int32), u10)).bind fun r29 =>
  if r29.1 = 0 then
    some ((-1 : Int32), r29.2)
  else
    (chk r29.2 (some t0) 2).bind fun b31 =>
    (fX2_tenthAtHalf t0 r29.1 r29.2).bind fun v32 =>
    some (v32, r29.2)
abbrev iX2_joinedTenth : MI := (yX2_joinedTenth, cX2_joinedTenth, 5, (some .int))
def fX2_joinedTenth (t0 : Nat) (p1 : Int32) (p2 : Int32) (u : Mem) : Option (Int32 × Mem) :=
  (gfR u (some t0) 2 2).bind fun v1 =>
  (gfR u v1 0 0).bind fun v2 =>
  (alR u v2 24 p1).bind fun v3 =>
  (gfI u v3 5 0).bind fun v4 =>
  nm (p2 - v4 : Int32) fun x5 =>
  if x5 < 0 then
    some ((-1 : Int32), u)
  else
    if x5 < (60 : Int32) then
      nm ((p1 * (60 : Int32)) + x5 : Int32) fun x8 =>
      (gfR u (some t0) 2 7).bind fun v9 =>
      (alI u v9 20 x8).bind fun v10 =>
      if v10 = (-2 : Int32) then
        (gfR u (some t0) 2 7).bind fun v12 =>
        (chk u (some t0) 2).bind fun b13 =>
        bnd2 (fX2_joinHeld t0 p1 p2 u) fun v14 u15 =>
        (asI u15 v12 20 x8 v14).bind fun u16 =>
        (gfR u16 (some t0) 2 7).bind fun v17 =>
        (alI u16 v17 20 x8).bind fun v18 =>
        some (v18, u16)
      else
        (gfR u (some t0) 2 7).bind fun v19 =>
        (alI u v19 20 x8).bind fun v20 =>
        some (v20, u)
    else
      (chk u (some t0) 2).bind fun b21 =>
      bnd2 (fX2_joinHeld t0 p1 p2 u) fun v22 u23 =>
      some (v22, u23)
abbrev iX2_joinedRows : MI := (yX2_joinedRows, cX2_joinedRows, 5, (some .int))
def bX2_joinedRows_18 (t0 : Nat) (i1 : Int32) (i2 : Option Nat) (s3 : Int32) (s4 : Int32) (u : Mem) : Option ((Int32 × Int32 × Mem) ⊕ (Int32 × Mem)) :=
  (chk u i2 5).bind fun b5 =>
  (fX5_endOfRows b5 u).bind fun v6 =>
  if s4 < v6 then
    (chk u (some t0) 2).bind fun b8 =>
    bnd2 (fX2_joinedTenth t0 i1 s4 u) fun v9 u10 =>
    if v9 = (-1 : Int32) then
      nm (s4 + 1 : Int32) fun x12 =>
      some (.inl (s3, x12, u10))
    else
      nm (s3 + 1 : Int32) fun x13 =>
      nm (s4 + 1 : Int32) fun x14 =>
      some (.inl (x13, x14, u10))
  else
    some (.inr (s3, u))
def fX2_joinedRows (t0 : Nat) (p1 : Int32) (u : Mem) : Option (Int32 × Mem) :=
  (gfR u (some t0) 2 2).bind fun v1 =>
  (gfR u v1 0 0).bind fun v2 =>
  (alR u v2 24 p1).bind fun v3 =>
  (gfI u v3 5 0).bind fun v4 =>
  (lp (fun s : Int32 × Int32 × Mem => bX2_joinedRows_18 t0 p1 v3 s.1 s.2.1 s.2.2) FU ((0 : Int32), v4, u)).bind fun r15 =>
  some (r15.1, r15.2)
abbrev iX2_joinedSum : MI := (yX2_joinedSum, cX2_joinedSum, 6, (some .int))
def bX2_joinedSum_18 (t0 : Nat) (i1 : Int32) (i2 : Option Nat) (s3 : Int32) (s4 : Int32) (u : Mem) : Option ((Int32 × Int32 × Mem) ⊕ (Int32 × Mem)) :=
  (chk u i2 5).bind fun b5 =>
  (fX5_endOfRows b5 u).bind fun v6 =>
  if s4 < v6 then
    (chk u (some t0) 2).bind fun b8 =>
    bnd2 (fX2_joinedTenth t0 i1 s4 u) fun v9 u10 =>
    if v9 = (-1 : Int32) then
      nm (s4 + 1 : Int32) fun x12 =>
      some (.inl (s3, x12, u10))
    else
      (gfR u10 (some t0) 2 3).bind fun v13 =>
      (gfI u10 (some b5) 5 2).bind fun v14 =>
      (chk u10 v13 7).bind fun b15 =>
      (fX7_cost b15 v14 v9 u10).bind fun v16 =>
      nm (s3 + v16 : Int32) fun x17 =>
      nm (s4 + 1 : Int32) fun x18 =>
      some (.inl (x17, x18, u10))
  else
    some (.inr (s3, u))
def fX2_joinedSum (t0 : Nat) (p1 : Int32) (u : Mem) : Option (Int32 × Mem) :=
  (gfR u (some t0) 2 2).bind fun v1 =>
  (gfR u v1 0 0).bind fun v2 =>
  (alR u v2 24 p1).bind fun v3 =>
  (gfI u v3 5 0).bind fun v4 =>
  (lp (fun s : Int32 × Int32 × Mem => bX2_joinedSum_18 t0 p1 v3 s.1 s.2.1 s.2.2) FU ((0 : Int32), v4, u)).bind fun r19 =>
  some (r19.1, r19.2)
abbrev iX2_costOverJoined : MI := (yX2_costOverJoined, cX2_costOverJoined, 8, (some .int))
def bX2_costOverJoined_19 (t0 : Nat) (i1 : Int32) (i2 : Int32) (i3 : Option Nat) (s4 : Int32) (s5 : Int32) (u : Mem) : Option ((Int32 × Int32 × Mem) ⊕ (Int32 × Mem)) :=
  (chk u i3 5).bind fun b5 =>
  (fX5_endOfRows b5 u).bind fun v6 =>
  if s5 < v6 then
    (chk u (some t0) 2).bind fun b8 =>
    bnd2 (fX2_joinedTenth t0 i2 s5 u) fun v9 u10 =>
    (gfR u10 (some t0) 2 4).bind fun v11 =>
    (chk u10 v11 1).bind fun b12 =>
    (fX1_costOnDay b12 i1 i2 s5 u10).bind fun v13 =>
    if v9 = (-1 : Int32) then
      nm (s5 + 1 : Int32) fun x15 =>
      some (.inl (s4, x15, u10))
    else
      if v13 = (-1 : Int32) then
        nm (s5 + 1 : Int32) fun x17 =>
        some (.inl (s4, x17, u10))
      else
        (gfR u10 (some t0) 2 3).bind fun v18 =>
        (gfI u10 (some b5) 5 2).bind fun v19 =>
        (chk u10 v18 7).bind fun b20 =>
        (fX7_cost b20 v19 v9 u10).bind fun v21 =>
        nm (s4 + (v13 - v21) : Int32) fun x22 =>
        nm (s5 + 1 : Int32) fun x23 =>
        some (.inl (x22, x23, u10))
  else
    some (.inr (s4, u))
def fX2_costOverJoined (t0 : Nat) (p1 : Int32) (p2 : Int32) (u : Mem) : Option (Int32 × Mem) :=
  (gfR u (some t0) 2 2).bind fun v1 =>
  (gfR u v1 0 0).bind fun v2 =>
  (alR u v2 24 p2).bind fun v3 =>
  (gfI u v3 5 0).bind fun v4 =>
  (lp (fun s : Int32 × Int32 × Mem => bX2_costOverJoined_19 t0 p1 p2 v3 s.1 s.2.1 s.2.2) FU ((0 : Int32), v4, u)).bind fun r24 =>
  some (r24.1, r24.2)
abbrev iX2_compareWithJoined : MI := (yX2_compareWithJoined, cX2_compareWithJoined, 4, (Option.none : Option FieldType))
def jX2_compareWithJoined_12_59 (t0 : Nat) (i1 : Int32) (p2 : Int32) (p3 : Int32) (w0 : Int32) (w1 : Int32) (w2 : Nat) (u : Mem) : Option ((Int32 × Mem) ⊕ (Mem)) :=
  (pfI u (some w2) 2 0 (w1 + w0)).bind fun u17 =>
  (gfI u17 (some t0) 2 1).bind fun v18 =>
  if p3 < 0 then
    (pfI u17 (some t0) 2 1 (v18 + (1 : Int32))).bind fun u20 =>
    nm (p2 + 1 : Int32) fun x21 =>
    some (.inl (x21, u20))
  else
    (pfI u17 (some t0) 2 1 (v18 + (0 : Int32))).bind fun u22 =>
    nm (p2 + 1 : Int32) fun x23 =>
    some (.inl (x23, u22))
def bX2_compareWithJoined_12 (t0 : Nat) (i1 : Int32) (s2 : Int32) (u : Mem) : Option ((Int32 × Mem) ⊕ (Mem)) :=
  (gfR u (some t0) 2 2).bind fun v3 =>
  (gfI u v3 0 3).bind fun v4 =>
  if s2 < v4 then
    (gfR u (some t0) 2 4).bind fun v6 =>
    (fX10_cell i1 s2 u).bind fun v7 =>
    (chk u v6 1).bind fun b8 =>
    (fX1_doesCount b8 v7 u).bind fun v9 =>
    if v9 = 0 then
      nm (s2 + 1 : Int32) fun x11 =>
      some (.inl (x11, u))
    else
      (chk u (some t0) 2).bind fun b12 =>
      bnd2 (fX2_costOverJoined t0 i1 s2 u) fun v13 u14 =>
      (gfI u14 (some t0) 2 0).bind fun v15 =>
      if v13 = 0 then
        jX2_compareWithJoined_12_59 t0 i1 s2 v13 (0 : Int32) v15 t0 u14
      else
        jX2_compareWithJoined_12_59 t0 i1 s2 v13 (1 : Int32) v15 t0 u14
  else
    some (.inr u)
def fX2_compareWithJoined (t0 : Nat) (p1 : Int32) (u : Mem) : Option (Mem) :=
  (pfI u (some t0) 2 0 (0 : Int32)).bind fun u1 =>
  (pfI u1 (some t0) 2 1 (0 : Int32)).bind fun u2 =>
  (lp (fun s : Int32 × Mem => bX2_compareWithJoined_12 t0 p1 s.1 s.2) FU ((0 : Int32), u2)).bind fun r24 =>
  some r24
abbrev iX2_rowsWithHeads : MI := (yX2_rowsWithHeads, cX2_rowsWithHeads, 7, (some .long))
def jX2_rowsWithHeads_8_26 (i0 : Int32) (i1 : Int32) (p2 : Int64) (p4 : Int64) (p6 : Int32) (u : Mem) : Option ((Int64 × Int64 × Int32) ⊕ (Int64)) :=
  (nz64 (Int32.toInt64 (p6 + (1 : Int32)))).bind fun z3 =>
  nm ((p2 * (Int32.toInt64 (i0 - p6))) / (Int32.toInt64 (p6 + (1 : Int32))) : Int64) fun x4 =>
  nm (p6 + 1 : Int32) fun x5 =>
  some (.inl (x4, p4, x5))
def bX2_rowsWithHeads_8 (i0 : Int32) (i1 : Int32) (u : Mem) (s2 : Int64) (s4 : Int64) (s6 : Int32) : Option ((Int64 × Int64 × Int32) ⊕ (Int64)) :=
  if i0 < s6 then
    some (.inr s4)
  else
    if s6 < i1 then
      jX2_rowsWithHeads_8_26 i0 i1 s2 s4 s6 u
    else
      nm (s4 + s2 : Int64) fun x6 =>
      jX2_rowsWithHeads_8_26 i0 i1 s2 x6 s6 u
def fX2_rowsWithHeads (p0 : Int32) (p1 : Int32) (u : Mem) : Option (Int64) :=
  (lp (fun s : Int64 × Int64 × Int32 => bX2_rowsWithHeads_8 p0 p1 u s.1 s.2.1 s.2.2) FU ((1 : Int64), (0 : Int64), (0 : Int32))).bind fun r7 =>
  some r7
abbrev iX4_init : MI := (yX4_init, cX4_init, 3, (Option.none : Option FieldType))
def fX4_init (t0 : Nat) (p1 : Option Nat) (p2 : Option Nat) (u : Mem) : Option (Mem) :=
  bnd2 (nwc u 20 20) fun a1 u2 =>
  (pfR u2 (some t0) 4 0 (some a1)).bind fun u3 =>
  bnd2 (nwc u3 20 4) fun a4 u5 =>
  (pfR u5 (some t0) 4 3 (some a4)).bind fun u6 =>
  bnd2 (nwc u6 20 4) fun a7 u8 =>
  (pfR u8 (some t0) 4 4 (some a7)).bind fun u9 =>
  bnd2 (nwc u9 20 4) fun a10 u11 =>
  (pfR u11 (some t0) 4 5 (some a10)).bind fun u12 =>
  bnd2 (nwc u12 20 4) fun a13 u14 =>
  (pfR u14 (some t0) 4 6 (some a13)).bind fun u15 =>
  (pfR u15 (some t0) 4 1 p1).bind fun u16 =>
  (pfR u16 (some t0) 4 2 p2).bind fun u17 =>
  (gfR u17 (some t0) 4 0).bind fun v18 =>
  (fJ7_fill_53178 v18 (-1 : Int32) u17).bind fun u19 =>
  some u19
abbrev iX4_choose : MI := (yX4_choose, cX4_choose, 5, (some .boolean))
def bX4_choose_8 (t0 : Nat) (i1 : Int32) (i2 : Int32) (i3 : Int32) (s4 : Int32) (u : Mem) : Option ((Int32 × Mem) ⊕ ((Mem) ⊕ (Mem))) :=
  (gfR u (some t0) 4 1).bind fun v2 =>
  (gfI u v2 0 3).bind fun v3 =>
  if s4 < v3 then
    (gfI u (some t0) 4 7).bind fun v5 =>
    if v5 < (4 : Int32) then
      if ((i3 >>> (s4 &&& 31)) &&& (1 : Int32)) = (1 : Int32) then
        (gfR u (some t0) 4 3).bind fun v8 =>
        (gfI u (some t0) 4 7).bind fun v9 =>
        (asI u v8 20 v9 s4).bind fun u10 =>
        (gfR u10 (some t0) 4 4).bind fun v11 =>
        (gfI u10 (some t0) 4 7).bind fun v12 =>
        (gfR u10 (some t0) 4 1).bind fun v13 =>
        (chk u10 v13 0).bind fun b14 =>
        (fX0_heldTenth b14 i1 s4 i2 u10).bind fun v15 =>
        (asI u10 v11 20 v12 v15).bind fun u16 =>
        (gfR u16 (some t0) 4 4).bind fun v17 =>
        (gfI u16 (some t0) 4 7).bind fun v18 =>
        (alI u16 v17 20 v18).bind fun v19 =>
        if v19 = (-1 : Int32) then
          some (.inr (.inr u16))
        else
          (gfI u16 (some t0) 4 7).bind fun v21 =>
          (pfI u16 (some t0) 4 7 (v21 + (1 : Int32))).bind fun u22 =>
          nm (s4 + 1 : Int32) fun x23 =>
          some (.inl (x23, u22))
      else
        nm (s4 + 1 : Int32) fun x24 =>
        some (.inl (x24, u))
    else
      some (.inr (.inl u))
  else
    some (.inr (.inl u))
def fX4_choose (t0 : Nat) (p1 : Int32) (p2 : Int32) (p3 : Int32) (u : Mem) : Option (Int32 × Mem) :=
  (pfI u (some t0) 4 7 (0 : Int32)).bind fun u1 =>
  (lp (fun s : Int32 × Mem => bX4_choose_8 t0 p1 p2 p3 s.1 s.2) FU ((0 : Int32), u1)).bind fun r25 =>
  sumE r25 (fun r26 =>
    some ((1 : Int32), r26)) (fun r27 =>
    some ((0 : Int32), r27))
abbrev iX4_placeTiedTo : MI := (yX4_placeTiedTo, cX4_placeTiedTo, 6, (some .int))
def jX4_placeTiedTo_2_91 (t0 : Nat) (i1 : Int32) (i2 : Int32) (p3 : Int32) (p4 : Int32) (w0 : Int32) (u : Mem) : Option ((Int32) ⊕ ((Unit) ⊕ (Int32))) :=
  if p4 = 0 then
    if w0 = 0 then
      nm (p3 + 1 : Int32) fun x28 =>
      some (.inl x28)
    else
      some (.inr (.inr p3))
  else
    some (.inr (.inr p3))
def jX4_placeTiedTo_2_90 (t0 : Nat) (i1 : Int32) (i2 : Int32) (p3 : Int32) (p4 : Int32) (u : Mem) : Option ((Int32) ⊕ ((Unit) ⊕ (Int32))) :=
  jX4_placeTiedTo_2_91 t0 i1 i2 p3 p4 (0 : Int32) u
def jX4_placeTiedTo_2_48 (t0 : Nat) (i1 : Int32) (i2 : Int32) (p3 : Int32) (w0 : Int32) (u : Mem) : Option ((Int32) ⊕ ((Unit) ⊕ (Int32))) :=
  (gfR u (some t0) 4 2).bind fun v14 =>
  (gfR u v14 9 1).bind fun v15 =>
  (alI u v15 20 i2).bind fun v16 =>
  (gfR u (some t0) 4 3).bind fun v17 =>
  (alI u v17 20 p3).bind fun v18 =>
  if v16 = v18 then
    (gfR u (some t0) 4 2).bind fun v20 =>
    (gfR u v20 9 0).bind fun v21 =>
    (alI u v21 20 i2).bind fun v22 =>
    (gfR u (some t0) 4 3).bind fun v23 =>
    (alI u v23 20 i1).bind fun v24 =>
    if v22 = v24 then
      jX4_placeTiedTo_2_91 t0 i1 i2 p3 w0 (1 : Int32) u
    else
      jX4_placeTiedTo_2_90 t0 i1 i2 p3 w0 u
  else
    jX4_placeTiedTo_2_90 t0 i1 i2 p3 w0 u
def jX4_placeTiedTo_2_47 (t0 : Nat) (i1 : Int32) (i2 : Int32) (p3 : Int32) (u : Mem) : Option ((Int32) ⊕ ((Unit) ⊕ (Int32))) :=
  jX4_placeTiedTo_2_48 t0 i1 i2 p3 (0 : Int32) u
def bX4_placeTiedTo_2 (t0 : Nat) (i1 : Int32) (i2 : Int32) (u : Mem) (s3 : Int32) : Option ((Int32) ⊕ ((Unit) ⊕ (Int32))) :=
  if s3 < i1 then
    (gfR u (some t0) 4 2).bind fun v2 =>
    (gfR u v2 9 0).bind fun v3 =>
    (alI u v3 20 i2).bind fun v4 =>
    (gfR u (some t0) 4 3).bind fun v5 =>
    (alI u v5 20 s3).bind fun v6 =>
    if v4 = v6 then
      (gfR u (some t0) 4 2).bind fun v8 =>
      (gfR u v8 9 1).bind fun v9 =>
      (alI u v9 20 i2).bind fun v10 =>
      (gfR u (some t0) 4 3).bind fun v11 =>
      (alI u v11 20 i1).bind fun v12 =>
      if v10 = v12 then
        jX4_placeTiedTo_2_48 t0 i1 i2 s3 (1 : Int32) u
      else
        jX4_placeTiedTo_2_47 t0 i1 i2 s3 u
    else
      jX4_placeTiedTo_2_47 t0 i1 i2 s3 u
  else
    some (.inr (.inl ()))
def fX4_placeTiedTo (t0 : Nat) (p1 : Int32) (p2 : Int32) (u : Mem) : Option (Int32) :=
  (lp (fun s : Int32 => bX4_placeTiedTo_2 t0 p1 p2 u s) FU (0 : Int32)).bind fun r29 =>
  sumE r29 (fun r30 =>
    some (-1 : Int32)) (fun r31 =>
    some r31)
abbrev iX4_highestByTie : MI := (yX4_highestByTie, cX4_highestByTie, 5, (some .int))
def jX4_highestByTie_53 (p3 : Int32) (w0 : Int32) (u : Mem) : Option (Int32) :=
  if w0 = 0 then
    some (10 : Int32)
  else
    some p3
def jX4_highestByTie_52 (p3 : Int32) (u : Mem) : Option (Int32) :=
  jX4_highestByTie_53 p3 (0 : Int32) u
def fX4_highestByTie (t0 : Nat) (p1 : Int32) (p2 : Int32) (p3 : Int32) (u : Mem) : Option (Int32) :=
  (gfR u (some t0) 4 2).bind fun v1 =>
  (gfR u v1 9 2).bind fun v2 =>
  (alI u v2 20 p1).bind fun v3 =>
  if v3 = (1 : Int32) then
    some ((10 : Int32) - p3)
  else
    (gfR u (some t0) 4 2).bind fun v5 =>
    (gfR u v5 9 2).bind fun v6 =>
    (alI u v6 20 p1).bind fun v7 =>
    if v7 = 0 then
      (gfR u (some t0) 4 2).bind fun v9 =>
      (gfR u v9 9 0).bind fun v10 =>
      (alI u v10 20 p1).bind fun v11 =>
      (gfR u (some t0) 4 3).bind fun v12 =>
      (alI u v12 20 p2).bind fun v13 =>
      if v11 = v13 then
        jX4_highestByTie_53 p3 (1 : Int32) u
      else
        jX4_highestByTie_52 p3 u
    else
      jX4_highestByTie_52 p3 u
abbrev iX4_highestFor : MI := (yX4_highestFor, cX4_highestFor, 5, (some .int))
def bX4_highestFor_5 (t0 : Nat) (i1 : Int32) (u : Mem) (s2 : Int32) (s3 : Int32) : Option ((Int32 × Int32) ⊕ (Int32)) :=
  (gfR u (some t0) 4 2).bind fun v1 =>
  (gfI u v1 9 3).bind fun v2 =>
  if s3 < v2 then
    (chk u (some t0) 4).bind fun b4 =>
    (fX4_placeTiedTo t0 i1 s3 u).bind fun v5 =>
    if v5 = (-1 : Int32) then
      nm (s3 + 1 : Int32) fun x7 =>
      some (.inl (s2, x7))
    else
      (gfR u (some t0) 4 5).bind fun v8 =>
      (alI u v8 20 v5).bind fun v9 =>
      (chk u (some t0) 4).bind fun b10 =>
      (fX4_highestByTie t0 s3 i1 v9 u).bind fun v11 =>
      nm (mnI s2 v11 : Int32) fun x12 =>
      nm (s3 + 1 : Int32) fun x13 =>
      some (.inl (x12, x13))
  else
    some (.inr s2)
def fX4_highestFor (t0 : Nat) (p1 : Int32) (u : Mem) : Option (Int32) :=
  (lp (fun s : Int32 × Int32 => bX4_highestFor_5 t0 p1 u s.1 s.2) FU ((10 : Int32), (0 : Int32))).bind fun r14 =>
  some r14
abbrev iX4_lowestByTie : MI := (yX4_lowestByTie, cX4_lowestByTie, 5, (some .int))
def jX4_lowestByTie_53 (p3 : Int32) (w0 : Int32) (u : Mem) : Option (Int32) :=
  if w0 = 0 then
    some (0 : Int32)
  else
    some p3
def jX4_lowestByTie_52 (p3 : Int32) (u : Mem) : Option (Int32) :=
  jX4_lowestByTie_53 p3 (0 : Int32) u
def fX4_lowestByTie (t0 : Nat) (p1 : Int32) (p2 : Int32) (p3 : Int32) (u : Mem) : Option (Int32) :=
  (gfR u (some t0) 4 2).bind fun v1 =>
  (gfR u v1 9 2).bind fun v2 =>
  (alI u v2 20 p1).bind fun v3 =>
  if v3 = (2 : Int32) then
    some ((10 : Int32) - p3)
  else
    (gfR u (some t0) 4 2).bind fun v5 =>
    (gfR u v5 9 2).bind fun v6 =>
    (alI u v6 20 p1).bind fun v7 =>
    if v7 = 0 then
      (gfR u (some t0) 4 2).bind fun v9 =>
      (gfR u v9 9 1).bind fun v10 =>
      (alI u v10 20 p1).bind fun v11 =>
      (gfR u (some t0) 4 3).bind fun v12 =>
      (alI u v12 20 p2).bind fun v13 =>
      if v11 = v13 then
        jX4_lowestByTie_53 p3 (1 : Int32) u
      else
        jX4_lowestByTie_52 p3 u
    else
      jX4_lowestByTie_52 p3 u
abbrev iX4_lowestFor : MI := (yX4_lowestFor, cX4_lowestFor, 5, (some .int))
def bX4_lowestFor_4 (t0 : Nat) (i1 : Int32) (u : Mem) (s2 : Int32) (s3 : Int32) : Option ((Int32 × Int32) ⊕ (Int32)) :=
  (gfR u (some t0) 4 2).bind fun v1 =>
  (gfI u v1 9 3).bind fun v2 =>
  if s3 < v2 then
    (chk u (some t0) 4).bind fun b4 =>
    (fX4_placeTiedTo t0 i1 s3 u).bind fun v5 =>
    if v5 = (-1 : Int32) then
      nm (s3 + 1 : Int32) fun x7 =>
      some (.inl (s2, x7))
    else
      (gfR u (some t0) 4 5).bind fun v8 =>
      (alI u v8 20 v5).bind fun v9 =>
      (chk u (some t0) 4).bind fun b10 =>
      (fX4_lowestByTie t0 s3 i1 v9 u).bind fun v11 =>
      nm (mxI s2 v11 : Int32) fun x12 =>
      nm (s3 + 1 : Int32) fun x13 =>
      some (.inl (x12, x13))
  else
    some (.inr s2)
def fX4_lowestFor (t0 : Nat) (p1 : Int32) (u : Mem) : Option (Int32) :=
  (lp (fun s : Int32 × Int32 => bX4_lowestFor_4 t0 p1 u s.1 s.2) FU ((0 : Int32), (0 : Int32))).bind fun r14 =>
  some r14
abbrev iX4_tryTenths : MI := (yX4_tryTenths, cX4_tryTenths, 5, (Option.none : Option FieldType))
def bX4_tryTenths_50 (F : Nat → Int32 → Int32 → Mem → Option (Mem)) (t0 : Nat) (i1 : Int32) (i2 : Int32) (i3 : Int32) (s4 : Int32) (u : Mem) : Option ((Int32 × Mem) ⊕ (Mem)) :=
  if i3 < s4 then
    some (.inr u)
  else
    (gfR u (some t0) 4 5).bind fun v10 =>
    (asI u v10 20 i1 s4).bind fun u11 =>
    (gfR u11 (some t0) 4 4).bind fun v12 =>
    (alI u11 v12 20 i1).bind fun v13 =>
    (chk u11 (some t0) 4).bind fun b14 =>
    (F t0 (i1 + (1 : Int32)) (i2 + (abI (s4 - v13))) u11).bind fun u15 =>
    nm (s4 + 1 : Int32) fun x16 =>
    some (.inl (x16, u15))
def gX4_tryTenths (F : Nat → Int32 → Int32 → Mem → Option (Mem)) (t0 : Nat) (p1 : Int32) (p2 : Int32) (u : Mem) : Option (Mem) :=
  (gfI u (some t0) 4 8).bind fun v1 =>
  if p2 < v1 then
    (gfI u (some t0) 4 7).bind fun v3 =>
    if p1 < v3 then
      (chk u (some t0) 4).bind fun b5 =>
      (fX4_highestFor t0 p1 u).bind fun v6 =>
      (chk u (some t0) 4).bind fun b7 =>
      (fX4_lowestFor t0 p1 u).bind fun v8 =>
      (lp (fun s : Int32 × Mem => bX4_tryTenths_50 F t0 p1 p2 v6 s.1 s.2) FU (v8, u)).bind fun r17 =>
      some r17
    else
      (pfI u (some t0) 4 8 p2).bind fun u18 =>
      (gfR u18 (some t0) 4 5).bind fun v19 =>
      (gfR u18 (some t0) 4 6).bind fun v20 =>
      (fCopy u18 v19 (0 : Int32) v20 (0 : Int32) (4 : Int32)).bind fun u21 =>
      some u21
  else
    some u
def fX4_tryTenths : Nat → Nat → Int32 → Int32 → Mem → Option (Mem)
  | 0, _, _, _, _ => none
  | n + 1, t0, p1, p2, u => gX4_tryTenths (fX4_tryTenths n) t0 p1 p2 u
theorem btX2_findCopiers_44 {l : Launch} {G : Gt} {d : Nat} {t0 : Nat} {i1 : Int32} {s2 : Int32} {u : Mem} {y : (Int32 × Mem) ⊕ (Mem)} {o : Outcome} {u' : Mem} (h : bX2_findCopiers_44 t0 i1 s2 u = some y) (k0 : ∀ s' : Int32 × Mem, y = .inl s' → Rn l G iX2_findCopiers (d + 3) 44 [(0, rv (some t0)), (1, .int i1), (2, .int s'.1)] [] s'.2 o u') (k1 : ∀ r : Mem, y = .inr (r) → Rn l G iX2_findCopiers (d + 3) 70 [(0, rv (some t0)), (1, .int i1)] [] r o u') : Rn l G iX2_findCopiers (d + 3) 44 [(0, rv (some t0)), (1, .int i1), (2, .int s2)] [] u o u' := by
  unfold bX2_findCopiers_44 at h
  refine rn_iload_n (pc := 44) 2 dX2_findCopiers_44 rfl rfl ?_
  refine rn_bipush (pc := 45) (v := 20) dX2_findCopiers_45 (by decide) ?_
  rcases if_elim h with ⟨c12, h1⟩ | ⟨c12, h1⟩
  · refine rn_ige_f (pc := 47) 70 dX2_findCopiers_47 (by decide) c12 ?_
    refine rn_aload_n (pc := 50) 0 dX2_findCopiers_50 rfl rfl ?_
    refine rn_aload_n (pc := 51) 0 dX2_findCopiers_51 rfl rfl ?_
    obtain ⟨v13, hv13, h2⟩ := bnd_some h1
    refine rn_getR (pc := 52) (k := 2) okX2 (by decide) tw_330 rfl dX2_findCopiers_52 hv13 ?_
    obtain ⟨v14, hv14, h3⟩ := bnd_some h2
    refine rn_getR (pc := 55) (k := 2) okX0 (by decide) tw_262 rfl dX2_findCopiers_55 hv14 ?_
    refine rn_iload_n (pc := 58) 1 dX2_findCopiers_58 rfl rfl ?_
    obtain ⟨v15, hv15, h4⟩ := bnd_some h3
    refine rn_aald25 (pc := 59) dX2_findCopiers_59 hv15 ?_
    refine rn_iload_n (pc := 60) 2 dX2_findCopiers_60 rfl rfl ?_
    obtain ⟨b16, hb16, h5⟩ := bnd_some h4
    obtain ⟨qb16, kb16⟩ := chk_elim hb16
    cases qb16
    obtain ⟨u17, hu17, h6⟩ := bnd_some h5
    refine rn_callV (pc := 61) (n := 2) (As := [rv v15, .int s2]) (rest := []) (eX2_noteCopy (d := d + 0) hu17) (by omega) okX2 kb16 tw_791 tw_75 tw_789 tw_790 tw_21 (by decide +kernel) rfl (Nat.le_of_ble_eq_true rfl) dX2_findCopiers_61 rfl ?_
    obtain ⟨x18, ex18, h7⟩ := nm_elim h6
    refine rn_iinc (pc := 64) (v := x18) (lv' := [(2, .int x18), (0, rv (some t0)), (1, .int i1)]) 2 dX2_findCopiers_64 rfl (by rw [ex18]; rfl) (by decide) rfl ?_
    refine rn_goto (pc := 67) (tgt := 44) dX2_findCopiers_67 (by decide) ?_
    cases h7
    exact rn_sub [1, 2, 0] rfl (k0 _ rfl)
  · refine rn_ige_t (pc := 47) (tgt := 70) dX2_findCopiers_47 (by decide) c12 ?_
    cases h1
    exact rn_sub [0, 1] rfl (k1 _ rfl)
theorem lX2_findCopiers_44 {l : Launch} {G : Gt} {d : Nat} {t0 : Nat} {i1 : Int32} {N : Nat} {s0 : Int32 × Mem} {r : Mem} {o : Outcome} {u' : Mem} (h : lp (fun s : Int32 × Mem => bX2_findCopiers_44 t0 i1 s.1 s.2) N s0 = some r) (k1 : Rn l G iX2_findCopiers (d + 3) 70 [(0, rv (some t0)), (1, .int i1)] [] r o u') : Rn l G iX2_findCopiers (d + 3) 44 [(0, rv (some t0)), (1, .int i1), (2, .int s0.1)] [] s0.2 o u' :=
  lp_run (P := fun s : Int32 × Mem => Rn l G iX2_findCopiers (d + 3) 44 [(0, rv (some t0)), (1, .int i1), (2, .int s.1)] [] s.2 o u') (E := fun r => Rn l G iX2_findCopiers (d + 3) 70 [(0, rv (some t0)), (1, .int i1)] [] r o u') (fun s y hy k0 kE => btX2_findCopiers_44 hy (fun s' e => k0 s' e) (fun r e => kE r e)) N s0 r h k1
theorem btX2_findCopiers_31 {l : Launch} {G : Gt} {d : Nat} {t0 : Nat} {s1 : Int32} {u : Mem} {y : (Int32 × Mem) ⊕ (Mem)} {o : Outcome} {u' : Mem} (h : bX2_findCopiers_31 t0 s1 u = some y) (k0 : ∀ s' : Int32 × Mem, y = .inl s' → Rn l G iX2_findCopiers (d + 3) 31 [(0, rv (some t0)), (1, .int s'.1)] [] s'.2 o u') (k1 : ∀ r : Mem, y = .inr (r) → Rn l G iX2_findCopiers (d + 3) 76 [] [] r o u') : Rn l G iX2_findCopiers (d + 3) 31 [(0, rv (some t0)), (1, .int s1)] [] u o u' := by
  unfold bX2_findCopiers_31 at h
  refine rn_iload_n (pc := 31) 1 dX2_findCopiers_31 rfl rfl ?_
  refine rn_aload_n (pc := 32) 0 dX2_findCopiers_32 rfl rfl ?_
  obtain ⟨v9, hv9, h1⟩ := bnd_some h
  refine rn_getR (pc := 33) (k := 2) okX2 (by decide) tw_330 rfl dX2_findCopiers_33 hv9 ?_
  obtain ⟨v10, hv10, h2⟩ := bnd_some h1
  refine rn_getI (pc := 36) (k := 4) okX0 (by decide) tw_268 rfl dX2_findCopiers_36 hv10 ?_
  rcases if_elim h2 with ⟨c11, h3⟩ | ⟨c11, h3⟩
  · refine rn_ige_f (pc := 39) 76 dX2_findCopiers_39 (by decide) c11 ?_
    refine rn_iconst (pc := 42) (v := 0) dX2_findCopiers_42 (by decide) ?_
    refine rn_istore_n (pc := 43) (lv' := [(2, .int (0 : Int32)), (0, rv (some t0)), (1, .int s1)]) dX2_findCopiers_43 rfl (by decide) rfl ?_
    obtain ⟨r19, hr19, h4⟩ := bnd_some h3
    refine rn_sub [1, 2, 0] rfl (lX2_findCopiers_44 hr19 ?_)
    obtain ⟨x20, ex20, h5⟩ := nm_elim h4
    refine rn_iinc (pc := 70) (v := x20) (lv' := [(1, .int x20), (0, rv (some t0))]) 1 dX2_findCopiers_70 rfl (by rw [ex20]; rfl) (by decide) rfl ?_
    refine rn_goto (pc := 73) (tgt := 31) dX2_findCopiers_73 (by decide) ?_
    cases h5
    exact rn_sub [1, 0] rfl (k0 _ rfl)
  · refine rn_ige_t (pc := 39) (tgt := 76) dX2_findCopiers_39 (by decide) c11 ?_
    cases h3
    exact rn_sub [] rfl (k1 _ rfl)
theorem lX2_findCopiers_31 {l : Launch} {G : Gt} {d : Nat} {t0 : Nat} {N : Nat} {s0 : Int32 × Mem} {r : Mem} {o : Outcome} {u' : Mem} (h : lp (fun s : Int32 × Mem => bX2_findCopiers_31 t0 s.1 s.2) N s0 = some r) (k1 : Rn l G iX2_findCopiers (d + 3) 76 [] [] r o u') : Rn l G iX2_findCopiers (d + 3) 31 [(0, rv (some t0)), (1, .int s0.1)] [] s0.2 o u' :=
  lp_run (P := fun s : Int32 × Mem => Rn l G iX2_findCopiers (d + 3) 31 [(0, rv (some t0)), (1, .int s.1)] [] s.2 o u') (E := fun r => Rn l G iX2_findCopiers (d + 3) 76 [] [] r o u') (fun s y hy k0 kE => btX2_findCopiers_31 hy (fun s' e => k0 s' e) (fun r e => kE r e)) N s0 r h k1
theorem tX2_findCopiers {l : Launch} {G : Gt} {d : Nat} {t0 : Nat} {u : Mem} {y : Mem} (h : fX2_findCopiers t0 u = some y) : Rn l G iX2_findCopiers (d + 3) 0 [(0, rv (some t0))] [] u (.returned none) y := by
  unfold fX2_findCopiers at h
  refine rn_aload_n (pc := 0) 0 dX2_findCopiers_0 rfl rfl ?_
  obtain ⟨v1, hv1, h1⟩ := bnd_some h
  refine rn_getR (pc := 1) (k := 5) okX2 (by decide) tw_333 rfl dX2_findCopiers_1 hv1 ?_
  refine rn_sipush (pc := 4) (v := 1000) dX2_findCopiers_4 (by decide) ?_
  obtain ⟨u2, hu2, h2⟩ := bnd_some h1
  refine rn_callS (pc := 7) (n := 2) (As := [rv v1, .int (1000 : Int32)]) (rest := []) (eJ7_fill_53178 (d := d + 2) hu2) (by omega) tw_397 tw_78 tw_784 tw_396 (by decide +kernel) rfl (Nat.le_of_ble_eq_true rfl) dX2_findCopiers_7 rfl ?_
  refine rn_aload_n (pc := 10) 0 dX2_findCopiers_10 rfl rfl ?_
  obtain ⟨v3, hv3, h3⟩ := bnd_some h2
  refine rn_getR (pc := 11) (k := 3) okX2 (by decide) tw_331 rfl dX2_findCopiers_11 hv3 ?_
  obtain ⟨b4, hb4, h4⟩ := bnd_some h3
  obtain ⟨qb4, kb4⟩ := chk_elim hb4
  subst qb4
  obtain ⟨v5, hv5, h5⟩ := bnd_some h4
  refine rn_callV (pc := 14) (n := 0) (As := []) (rest := []) (eX7_tellsCopy (d := d + 2) hv5) (by omega) okX7 kb4 tw_766 tw_71 tw_788 tw_764 tw_765 (by decide +kernel) rfl (Nat.le_of_ble_eq_true rfl) dX2_findCopiers_14 rfl ?_
  rcases if_elim h5 with ⟨c6, h6⟩ | ⟨c6, h6⟩
  · refine rn_zne_f (pc := 17) 21 dX2_findCopiers_17 (by decide) c6 ?_
    cases h6
    exact rn_vret (pc := 20) rfl dX2_findCopiers_20
  · refine rn_zne_t (pc := 17) (tgt := 21) dX2_findCopiers_17 (by decide) c6 ?_
    refine rn_aload_n (pc := 21) 0 dX2_findCopiers_21 rfl rfl ?_
    obtain ⟨v7, hv7, h7⟩ := bnd_some h6
    refine rn_getR (pc := 22) (k := 6) okX2 (by decide) tw_334 rfl dX2_findCopiers_22 hv7 ?_
    refine rn_iconst (pc := 25) (v := 0) dX2_findCopiers_25 (by decide) ?_
    obtain ⟨u8, hu8, h8⟩ := bnd_some h7
    refine rn_callS (pc := 26) (n := 2) (As := [rv v7, .int (0 : Int32)]) (rest := []) (eJ7_fill_53178 (d := d + 2) hu8) (by omega) tw_397 tw_78 tw_784 tw_396 (by decide +kernel) rfl (Nat.le_of_ble_eq_true rfl) dX2_findCopiers_26 rfl ?_
    refine rn_iconst (pc := 29) (v := 0) dX2_findCopiers_29 (by decide) ?_
    refine rn_istore_n (pc := 30) (lv' := [(1, .int (0 : Int32)), (0, rv (some t0))]) dX2_findCopiers_30 rfl (by decide) rfl ?_
    obtain ⟨r21, hr21, h9⟩ := bnd_some h8
    refine rn_sub [1, 0] rfl (lX2_findCopiers_31 hr21 ?_)
    cases h9
    exact rn_vret (pc := 76) rfl dX2_findCopiers_76
theorem eX2_findCopiers {l : Launch} {G : Gt} {d : Nat} {t0 : Nat} {u : Mem} {y : Mem} (h : fX2_findCopiers t0 u = some y) : Ex l G iX2_findCopiers (d + 3) [rv (some t0)] u (.returned none) y := Ex.of (by decide +kernel) (by decide) (Nat.le_of_ble_eq_true rfl) rfl (tX2_findCopiers h)
theorem tX2_refresh {l : Launch} {G : Gt} {d : Nat} {t0 : Nat} {u : Mem} {y : Mem} (h : fX2_refresh t0 u = some y) : Rn l G iX2_refresh (d + 4) 0 [(0, rv (some t0))] [] u (.returned none) y := by
  unfold fX2_refresh at h
  refine rn_aload_n (pc := 0) 0 dX2_refresh_0 rfl rfl ?_
  obtain ⟨v1, hv1, h1⟩ := bnd_some h
  refine rn_getR (pc := 1) (k := 4) okX2 (by decide) tw_332 rfl dX2_refresh_1 hv1 ?_
  obtain ⟨b2, hb2, h2⟩ := bnd_some h1
  obtain ⟨qb2, kb2⟩ := chk_elim hb2
  subst qb2
  obtain ⟨u3, hu3, h3⟩ := bnd_some h2
  refine rn_callV (pc := 4) (n := 0) (As := []) (rest := []) (eX1_refresh (d := d + 0) hu3) (by omega) okX1 kb2 tw_665 tw_74 tw_783 tw_663 tw_664 (by decide +kernel) rfl (Nat.le_of_ble_eq_true rfl) dX2_refresh_4 rfl ?_
  refine rn_aload_n (pc := 7) 0 dX2_refresh_7 rfl rfl ?_
  obtain ⟨v4, hv4, h4⟩ := bnd_some h3
  refine rn_getI (pc := 8) (k := 10) okX2 (by decide) tw_338 rfl dX2_refresh_8 hv4 ?_
  refine rn_aload_n (pc := 11) 0 dX2_refresh_11 rfl rfl ?_
  obtain ⟨v5, hv5, h5⟩ := bnd_some h4
  refine rn_getR (pc := 12) (k := 2) okX2 (by decide) tw_330 rfl dX2_refresh_12 hv5 ?_
  obtain ⟨v6, hv6, h6⟩ := bnd_some h5
  refine rn_getI (pc := 15) (k := 5) okX0 (by decide) tw_272 rfl dX2_refresh_15 hv6 ?_
  rcases if_elim h6 with ⟨c7, h7⟩ | ⟨c7, h7⟩
  · refine rn_ine_f (pc := 18) 22 dX2_refresh_18 (by decide) c7 ?_
    cases h7
    exact rn_vret (pc := 21) rfl dX2_refresh_21
  · refine rn_ine_t (pc := 18) (tgt := 22) dX2_refresh_18 (by decide) c7 ?_
    refine rn_aload_n (pc := 22) 0 dX2_refresh_22 rfl rfl ?_
    refine rn_aload_n (pc := 23) 0 dX2_refresh_23 rfl rfl ?_
    obtain ⟨v8, hv8, h8⟩ := bnd_some h7
    refine rn_getR (pc := 24) (k := 2) okX2 (by decide) tw_330 rfl dX2_refresh_24 hv8 ?_
    obtain ⟨v9, hv9, h9⟩ := bnd_some h8
    refine rn_getI (pc := 27) (k := 5) okX0 (by decide) tw_272 rfl dX2_refresh_27 hv9 ?_
    obtain ⟨u10, hu10, h10⟩ := bnd_some h9
    refine rn_putI (pc := 30) (k := 10) okX2 (by decide) tw_338 (Or.inl rfl) (Or.inl rfl) dX2_refresh_30 hu10 ?_
    refine rn_aload_n (pc := 33) 0 dX2_refresh_33 rfl rfl ?_
    obtain ⟨v11, hv11, h11⟩ := bnd_some h10
    refine rn_getR (pc := 34) (k := 7) okX2 (by decide) tw_335 rfl dX2_refresh_34 hv11 ?_
    refine rn_bipush (pc := 37) (v := -2) dX2_refresh_37 (by decide) ?_
    obtain ⟨u12, hu12, h12⟩ := bnd_some h11
    refine rn_callS (pc := 39) (n := 2) (As := [rv v11, .int (-2 : Int32)]) (rest := []) (eJ7_fill_53178 (d := d + 3) hu12) (by omega) tw_397 tw_78 tw_784 tw_396 (by decide +kernel) rfl (Nat.le_of_ble_eq_true rfl) dX2_refresh_39 rfl ?_
    refine rn_aload_n (pc := 42) 0 dX2_refresh_42 rfl rfl ?_
    obtain ⟨b13, hb13, h13⟩ := bnd_some h12
    obtain ⟨qb13, kb13⟩ := chk_elim hb13
    cases qb13
    obtain ⟨u14, hu14, h14⟩ := bnd_some h13
    refine rn_callV (pc := 43) (n := 0) (As := []) (rest := []) (eX2_findCopiers (d := d + 0) hu14) (by omega) okX2 kb13 tw_787 tw_75 tw_785 tw_786 tw_20 (by decide +kernel) rfl (Nat.le_of_ble_eq_true rfl) dX2_refresh_43 rfl ?_
    cases h14
    exact rn_vret (pc := 46) rfl dX2_refresh_46
theorem eX2_refresh {l : Launch} {G : Gt} {d : Nat} {t0 : Nat} {u : Mem} {y : Mem} (h : fX2_refresh t0 u = some y) : Ex l G iX2_refresh (d + 4) [rv (some t0)] u (.returned none) y := Ex.of (by decide +kernel) (by decide) (Nat.le_of_ble_eq_true rfl) rfl (tX2_refresh h)
theorem btX2_countCopies_5 {l : Launch} {G : Gt} {d : Nat} {t0 : Nat} {i1 : Int32} {i2 : Int32} {u : Mem} {s3 : Int32} {s4 : Int32} {y : (Int32 × Int32) ⊕ (Int32)} {o : Outcome} {u' : Mem} (h : bX2_countCopies_5 t0 i1 i2 u s3 s4 = some y) (k0 : ∀ s' : Int32 × Int32, y = .inl s' → Rn l G iX2_countCopies (d + 2) 5 [(0, rv (some t0)), (1, .int i1), (2, .int i2), (3, .int s'.1), (4, .int s'.2)] [] u o u') (k1 : ∀ r : Int32, y = .inr (r) → Rn l G iX2_countCopies (d + 2) 62 [(3, .int r)] [] u o u') : Rn l G iX2_countCopies (d + 2) 5 [(0, rv (some t0)), (1, .int i1), (2, .int i2), (3, .int s3), (4, .int s4)] [] u o u' := by
  unfold bX2_countCopies_5 at h
  refine rn_iload (pc := 5) 4 dX2_countCopies_5 rfl ?_
  refine rn_aload_n (pc := 7) 0 dX2_countCopies_7 rfl rfl ?_
  obtain ⟨v1, hv1, h1⟩ := bnd_some h
  refine rn_getR (pc := 8) (k := 2) okX2 (by decide) tw_330 rfl dX2_countCopies_8 hv1 ?_
  obtain ⟨v2, hv2, h2⟩ := bnd_some h1
  refine rn_getI (pc := 11) (k := 4) okX0 (by decide) tw_268 rfl dX2_countCopies_11 hv2 ?_
  rcases if_elim h2 with ⟨c3, h3⟩ | ⟨c3, h3⟩
  · refine rn_ige_f (pc := 14) 62 dX2_countCopies_14 (by decide) c3 ?_
    refine rn_aload_n (pc := 17) 0 dX2_countCopies_17 rfl rfl ?_
    obtain ⟨v4, hv4, h4⟩ := bnd_some h3
    refine rn_getR (pc := 18) (k := 2) okX2 (by decide) tw_330 rfl dX2_countCopies_18 hv4 ?_
    obtain ⟨v5, hv5, h5⟩ := bnd_some h4
    refine rn_getR (pc := 21) (k := 2) okX0 (by decide) tw_262 rfl dX2_countCopies_21 hv5 ?_
    refine rn_iload (pc := 24) 4 dX2_countCopies_24 rfl ?_
    obtain ⟨v6, hv6, h6⟩ := bnd_some h5
    refine rn_aald25 (pc := 26) dX2_countCopies_26 hv6 ?_
    refine rn_astore (pc := 27) (lv' := [(5, rv v6), (0, rv (some t0)), (1, .int i1), (2, .int i2), (3, .int s3), (4, .int s4)]) dX2_countCopies_27 (by decide) rfl ?_
    refine rn_aload (pc := 29) 0 dX2_countCopies_29 rfl ?_
    rcases if_elim h6 with ⟨c7, h7⟩ | ⟨c7, h7⟩
    · refine rn_ifnull_t (pc := 31) (tgt := 56) dX2_countCopies_31 (by decide) c7 ?_
      obtain ⟨x8, ex8, h8⟩ := nm_elim h7
      refine rn_iinc (pc := 56) (v := x8) (lv' := [(4, .int x8), (5, rv v6), (0, rv (some t0)), (1, .int i1), (2, .int i2), (3, .int s3)]) 5 dX2_countCopies_56 rfl (by rw [ex8]; rfl) (by decide) rfl ?_
      refine rn_goto (pc := 59) (tgt := 5) dX2_countCopies_59 (by decide) ?_
      cases h8
      exact rn_sub [2, 3, 4, 5, 0] rfl (k0 _ rfl)
    · refine rn_ifnull_f (pc := 31) dX2_countCopies_31 c7 ?_
      refine rn_aload (pc := 34) 0 dX2_countCopies_34 rfl ?_
      obtain ⟨v9, hv9, h9⟩ := bnd_some h7
      refine rn_getI (pc := 36) (k := 0) okX3 (by decide) tw_618 rfl dX2_countCopies_36 hv9 ?_
      refine rn_iload_n (pc := 39) 2 dX2_countCopies_39 rfl rfl ?_
      rcases if_elim h9 with ⟨c10, h10⟩ | ⟨c10, h10⟩
      · refine rn_ine_f (pc := 40) 56 dX2_countCopies_40 (by decide) c10 ?_
        refine rn_aload_n (pc := 43) 1 dX2_countCopies_43 rfl rfl ?_
        refine rn_aload (pc := 44) 0 dX2_countCopies_44 rfl ?_
        refine rn_iload_n (pc := 46) 3 dX2_countCopies_46 rfl rfl ?_
        obtain ⟨b11, hb11, h11⟩ := bnd_some h10
        obtain ⟨qb11, kb11⟩ := chk_elim hb11
        cases qb11
        obtain ⟨v12, hv12, h12⟩ := bnd_some h11
        refine rn_callV (pc := 47) (n := 2) (As := [rv v6, .int i2]) (rest := []) (eX2_isCopy (d := d + 0) hv12) (by omega) okX2 kb11 tw_773 tw_75 tw_771 tw_772 tw_19 (by decide +kernel) rfl (Nat.le_of_ble_eq_true rfl) dX2_countCopies_47 rfl ?_
        rcases if_elim h12 with ⟨c13, h13⟩ | ⟨c13, h13⟩
        · refine rn_zeq_t (pc := 50) (tgt := 56) dX2_countCopies_50 (by decide) c13 ?_
          obtain ⟨x14, ex14, h14⟩ := nm_elim h13
          refine rn_iinc (pc := 56) (v := x14) (lv' := [(4, .int x14), (5, rv v6), (0, rv (some t0)), (1, .int i1), (2, .int i2), (3, .int s3)]) 5 dX2_countCopies_56 rfl (by rw [ex14]; rfl) (by decide) rfl ?_
          refine rn_goto (pc := 59) (tgt := 5) dX2_countCopies_59 (by decide) ?_
          cases h14
          exact rn_sub [2, 3, 4, 5, 0] rfl (k0 _ rfl)
        · refine rn_zeq_f (pc := 50) 56 dX2_countCopies_50 (by decide) c13 ?_
          obtain ⟨x15, ex15, h15⟩ := nm_elim h13
          refine rn_iinc (pc := 53) (v := x15) (lv' := [(3, .int x15), (5, rv v6), (0, rv (some t0)), (1, .int i1), (2, .int i2), (4, .int s4)]) 4 dX2_countCopies_53 rfl (by rw [ex15]; rfl) (by decide) rfl ?_
          obtain ⟨x16, ex16, h16⟩ := nm_elim h15
          refine rn_iinc (pc := 56) (v := x16) (lv' := [(4, .int x16), (3, .int x15), (5, rv v6), (0, rv (some t0)), (1, .int i1), (2, .int i2)]) 5 dX2_countCopies_56 rfl (by rw [ex16]; rfl) (by decide) rfl ?_
          refine rn_goto (pc := 59) (tgt := 5) dX2_countCopies_59 (by decide) ?_
          cases h16
          exact rn_sub [3, 4, 5, 1, 0] rfl (k0 _ rfl)
      · refine rn_ine_t (pc := 40) (tgt := 56) dX2_countCopies_40 (by decide) c10 ?_
        obtain ⟨x17, ex17, h17⟩ := nm_elim h10
        refine rn_iinc (pc := 56) (v := x17) (lv' := [(4, .int x17), (5, rv v6), (0, rv (some t0)), (1, .int i1), (2, .int i2), (3, .int s3)]) 5 dX2_countCopies_56 rfl (by rw [ex17]; rfl) (by decide) rfl ?_
        refine rn_goto (pc := 59) (tgt := 5) dX2_countCopies_59 (by decide) ?_
        cases h17
        exact rn_sub [2, 3, 4, 5, 0] rfl (k0 _ rfl)
  · refine rn_ige_t (pc := 14) (tgt := 62) dX2_countCopies_14 (by decide) c3 ?_
    cases h3
    exact rn_sub [3] rfl (k1 _ rfl)
theorem lX2_countCopies_5 {l : Launch} {G : Gt} {d : Nat} {t0 : Nat} {i1 : Int32} {i2 : Int32} {u : Mem} {N : Nat} {s0 : Int32 × Int32} {r : Int32} {o : Outcome} {u' : Mem} (h : lp (fun s : Int32 × Int32 => bX2_countCopies_5 t0 i1 i2 u s.1 s.2) N s0 = some r) (k1 : Rn l G iX2_countCopies (d + 2) 62 [(3, .int r)] [] u o u') : Rn l G iX2_countCopies (d + 2) 5 [(0, rv (some t0)), (1, .int i1), (2, .int i2), (3, .int s0.1), (4, .int s0.2)] [] u o u' :=
  lp_run (P := fun s : Int32 × Int32 => Rn l G iX2_countCopies (d + 2) 5 [(0, rv (some t0)), (1, .int i1), (2, .int i2), (3, .int s.1), (4, .int s.2)] [] u o u') (E := fun r => Rn l G iX2_countCopies (d + 2) 62 [(3, .int r)] [] u o u') (fun s y hy k0 kE => btX2_countCopies_5 hy (fun s' e => k0 s' e) (fun r e => kE r e)) N s0 r h k1
theorem tX2_countCopies {l : Launch} {G : Gt} {d : Nat} {t0 : Nat} {p1 : Int32} {p2 : Int32} {u : Mem} {y : Int32} (h : fX2_countCopies t0 p1 p2 u = some y) : Rn l G iX2_countCopies (d + 2) 0 [(0, rv (some t0)), (1, .int p1), (2, .int p2)] [] u (.returned (some (.int y))) u := by
  unfold fX2_countCopies at h
  refine rn_iconst (pc := 0) (v := 0) dX2_countCopies_0 (by decide) ?_
  refine rn_istore_n (pc := 1) (lv' := [(3, .int (0 : Int32)), (0, rv (some t0)), (1, .int p1), (2, .int p2)]) dX2_countCopies_1 rfl (by decide) rfl ?_
  refine rn_iconst (pc := 2) (v := 0) dX2_countCopies_2 (by decide) ?_
  refine rn_istore (pc := 3) (lv' := [(4, .int (0 : Int32)), (3, .int (0 : Int32)), (0, rv (some t0)), (1, .int p1), (2, .int p2)]) dX2_countCopies_3 (by decide) rfl ?_
  obtain ⟨r18, hr18, h1⟩ := bnd_some h
  refine rn_sub [2, 3, 4, 1, 0] rfl (lX2_countCopies_5 hr18 ?_)
  refine rn_iload_n (pc := 62) 0 dX2_countCopies_62 rfl rfl ?_
  cases h1
  exact rn_iret (pc := 63) rfl dX2_countCopies_63
theorem eX2_countCopies {l : Launch} {G : Gt} {d : Nat} {t0 : Nat} {p1 : Int32} {p2 : Int32} {u : Mem} {y : Int32} (h : fX2_countCopies t0 p1 p2 u = some y) : Ex l G iX2_countCopies (d + 2) [rv (some t0), .int p1, .int p2] u (.returned (some (.int y))) u := Ex.of (by decide +kernel) (by decide) (Nat.le_of_ble_eq_true rfl) rfl (tX2_countCopies h)
theorem tX7_weighsByPast {l : Launch} {G : Gt} {d : Nat} {t0 : Nat} {u : Mem} {y : Int32} (h : fX7_weighsByPast t0 u = some y) : Rn l G iX7_weighsByPast d 0 [(0, rv (some t0))] [] u (.returned (some (.int y))) u := by
  unfold fX7_weighsByPast at h
  refine rn_aload_n (pc := 0) 0 dX7_weighsByPast_0 rfl rfl ?_
  obtain ⟨v1, hv1, h1⟩ := bnd_some h
  refine rn_getI (pc := 1) (k := 3) okX7 (by decide) tw_142 rfl dX7_weighsByPast_1 hv1 ?_
  refine rn_iconst (pc := 4) (v := 1) dX7_weighsByPast_4 (by decide) ?_
  rcases if_elim h1 with ⟨c2, h2⟩ | ⟨c2, h2⟩
  · refine rn_ine_f (pc := 5) 12 dX7_weighsByPast_5 (by decide) c2 ?_
    refine rn_iconst (pc := 8) (v := 1) dX7_weighsByPast_8 (by decide) ?_
    refine rn_goto (pc := 9) (tgt := 13) dX7_weighsByPast_9 (by decide) ?_
    cases h2
    exact rn_zret (pc := 13) (by decide) rfl dX7_weighsByPast_13
  · refine rn_ine_t (pc := 5) (tgt := 12) dX7_weighsByPast_5 (by decide) c2 ?_
    refine rn_iconst (pc := 12) (v := 0) dX7_weighsByPast_12 (by decide) ?_
    cases h2
    exact rn_zret (pc := 13) (by decide) rfl dX7_weighsByPast_13
theorem eX7_weighsByPast {l : Launch} {G : Gt} {d : Nat} {t0 : Nat} {u : Mem} {y : Int32} (h : fX7_weighsByPast t0 u = some y) : Ex l G iX7_weighsByPast d [rv (some t0)] u (.returned (some (.int y))) u := Ex.of (by decide +kernel) (by decide) (Nat.le_of_ble_eq_true rfl) rfl (tX7_weighsByPast h)
theorem btX2_weightOn_20 {l : Launch} {G : Gt} {d : Nat} {t0 : Nat} {i1 : Int32} {i2 : Int32} {u : Mem} {s3 : Int32} {s4 : Int32} {s5 : Int32} {y : (Int32 × Int32 × Int32) ⊕ (Int32 × Int32)} {o : Outcome} {u' : Mem} (h : bX2_weightOn_20 t0 i1 i2 u s3 s4 s5 = some y) (k0 : ∀ s' : Int32 × Int32 × Int32, y = .inl s' → Rn l G iX2_weightOn (d + 1) 20 [(0, rv (some t0)), (1, .int i1), (2, .int i2), (3, .int s'.1), (4, .int s'.2.1), (5, .int s'.2.2)] [] u o u') (k1 : ∀ r : Int32 × Int32, y = .inr (r) → Rn l G iX2_weightOn (d + 1) 129 [(3, .int r.1), (4, .int r.2)] [] u o u') : Rn l G iX2_weightOn (d + 1) 20 [(0, rv (some t0)), (1, .int i1), (2, .int i2), (3, .int s3), (4, .int s4), (5, .int s5)] [] u o u' := by
  unfold bX2_weightOn_20 at h
  refine rn_iload (pc := 20) 5 dX2_weightOn_20 rfl ?_
  refine rn_aload_n (pc := 22) 0 dX2_weightOn_22 rfl rfl ?_
  obtain ⟨v5, hv5, h1⟩ := bnd_some h
  refine rn_getR (pc := 23) (k := 2) okX2 (by decide) tw_330 rfl dX2_weightOn_23 hv5 ?_
  obtain ⟨v6, hv6, h2⟩ := bnd_some h1
  refine rn_getI (pc := 26) (k := 3) okX0 (by decide) tw_266 rfl dX2_weightOn_26 hv6 ?_
  rcases if_elim h2 with ⟨c7, h3⟩ | ⟨c7, h3⟩
  · refine rn_ige_f (pc := 29) 129 dX2_weightOn_29 (by decide) c7 ?_
    refine rn_aload_n (pc := 32) 0 dX2_weightOn_32 rfl rfl ?_
    obtain ⟨v8, hv8, h4⟩ := bnd_some h3
    refine rn_getR (pc := 33) (k := 2) okX2 (by decide) tw_330 rfl dX2_weightOn_33 hv8 ?_
    obtain ⟨v9, hv9, h5⟩ := bnd_some h4
    refine rn_getR (pc := 36) (k := 0) okX0 (by decide) tw_257 rfl dX2_weightOn_36 hv9 ?_
    refine rn_iload (pc := 39) 5 dX2_weightOn_39 rfl ?_
    obtain ⟨v10, hv10, h6⟩ := bnd_some h5
    refine rn_aald24 (pc := 41) dX2_weightOn_41 hv10 ?_
    refine rn_astore (pc := 42) (lv' := [(6, rv v10), (0, rv (some t0)), (1, .int i1), (2, .int i2), (3, .int s3), (4, .int s4), (5, .int s5)]) dX2_weightOn_42 (by decide) rfl ?_
    refine rn_iload_n (pc := 44) 2 dX2_weightOn_44 rfl rfl ?_
    refine rn_iload (pc := 45) 6 dX2_weightOn_45 rfl ?_
    obtain ⟨v11, hv11, h7⟩ := bnd_some h6
    refine rn_callSN (pc := 47) (host := "ForeBook") (n := 2) (As := [.int i1, .int s5]) (rest := []) (eX10_cell (d := d + 0) hv11) (by omega) tw_604 tw_68 (by decide +kernel) tw_603 (by decide +kernel) rfl (Nat.le_of_ble_eq_true rfl) dX2_weightOn_47 rfl ?_
    refine rn_istore (pc := 50) (lv' := [(7, .int v11), (6, rv v10), (0, rv (some t0)), (1, .int i1), (2, .int i2), (3, .int s3), (4, .int s4), (5, .int s5)]) dX2_weightOn_50 (by decide) (by generalize v10 = q; cases q <;> rfl) ?_
    refine rn_aload (pc := 52) 1 dX2_weightOn_52 rfl ?_
    obtain ⟨b12, hb12, h8⟩ := bnd_some h7
    obtain ⟨qb12, kb12⟩ := chk_elim hb12
    subst qb12
    obtain ⟨v13, hv13, h9⟩ := bnd_some h8
    refine rn_callV (pc := 54) (n := 0) (As := []) (rest := []) (eX5_isSettled (d := d + 0) hv13) (by omega) okX5 kb12 tw_672 tw_73 tw_802 tw_670 tw_671 (by decide +kernel) rfl (Nat.le_of_ble_eq_true rfl) dX2_weightOn_54 rfl ?_
    rcases if_elim h9 with ⟨c14, h10⟩ | ⟨c14, h10⟩
    · refine rn_zeq_t (pc := 57) (tgt := 123) dX2_weightOn_57 (by decide) c14 ?_
      obtain ⟨x15, ex15, h11⟩ := nm_elim h10
      refine rn_iinc (pc := 123) (v := x15) (lv' := [(5, .int x15), (7, .int v11), (6, rv (some b12)), (0, rv (some t0)), (1, .int i1), (2, .int i2), (3, .int s3), (4, .int s4)]) 7 dX2_weightOn_123 rfl (by rw [ex15]; rfl) (by decide) rfl ?_
      refine rn_goto (pc := 126) (tgt := 20) dX2_weightOn_126 (by decide) ?_
      cases h11
      exact rn_sub [3, 4, 5, 6, 7, 0] rfl (k0 _ rfl)
    · refine rn_zeq_f (pc := 57) 123 dX2_weightOn_57 (by decide) c14 ?_
      refine rn_aload (pc := 60) 1 dX2_weightOn_60 rfl ?_
      obtain ⟨v16, hv16, h12⟩ := bnd_some h10
      refine rn_getI (pc := 62) (k := 3) okX5 (by decide) tw_240 rfl dX2_weightOn_62 hv16 ?_
      refine rn_iload_n (pc := 65) 4 dX2_weightOn_65 rfl rfl ?_
      rcases if_elim h12 with ⟨c17, h13⟩ | ⟨c17, h13⟩
      · refine rn_ige_f (pc := 66) 123 dX2_weightOn_66 (by decide) c17 ?_
        refine rn_aload_n (pc := 69) 2 dX2_weightOn_69 rfl rfl ?_
        obtain ⟨v18, hv18, h14⟩ := bnd_some h13
        refine rn_getR (pc := 70) (k := 4) okX2 (by decide) tw_332 rfl dX2_weightOn_70 hv18 ?_
        refine rn_iload (pc := 73) 0 dX2_weightOn_73 rfl ?_
        obtain ⟨b19, hb19, h15⟩ := bnd_some h14
        obtain ⟨qb19, kb19⟩ := chk_elim hb19
        subst qb19
        obtain ⟨v20, hv20, h16⟩ := bnd_some h15
        refine rn_callV (pc := 75) (n := 1) (As := [.int v11]) (rest := []) (eX1_doesCount (d := d + 0) hv20) (by omega) okX1 kb19 tw_698 tw_74 tw_803 tw_696 tw_697 (by decide +kernel) rfl (Nat.le_of_ble_eq_true rfl) dX2_weightOn_75 rfl ?_
        rcases if_elim h16 with ⟨c21, h17⟩ | ⟨c21, h17⟩
        · refine rn_zeq_t (pc := 78) (tgt := 123) dX2_weightOn_78 (by decide) c21 ?_
          obtain ⟨x22, ex22, h18⟩ := nm_elim h17
          refine rn_iinc (pc := 123) (v := x22) (lv' := [(5, .int x22), (7, .int v11), (6, rv (some b12)), (0, rv (some t0)), (1, .int i1), (2, .int i2), (3, .int s3), (4, .int s4)]) 7 dX2_weightOn_123 rfl (by rw [ex22]; rfl) (by decide) rfl ?_
          refine rn_goto (pc := 126) (tgt := 20) dX2_weightOn_126 (by decide) ?_
          cases h18
          exact rn_sub [3, 4, 5, 6, 7, 0] rfl (k0 _ rfl)
        · refine rn_zeq_f (pc := 78) 123 dX2_weightOn_78 (by decide) c21 ?_
          refine rn_iload_n (pc := 81) 5 dX2_weightOn_81 rfl rfl ?_
          refine rn_aload_n (pc := 82) 2 dX2_weightOn_82 rfl rfl ?_
          obtain ⟨v23, hv23, h19⟩ := bnd_some h17
          refine rn_getR (pc := 83) (k := 4) okX2 (by decide) tw_332 rfl dX2_weightOn_83 hv23 ?_
          obtain ⟨v24, hv24, h20⟩ := bnd_some h19
          refine rn_getR (pc := 86) (k := 0) okX1 (by decide) tw_295 rfl dX2_weightOn_86 hv24 ?_
          refine rn_iload (pc := 89) 0 dX2_weightOn_89 rfl ?_
          obtain ⟨v25, hv25, h21⟩ := bnd_some h20
          refine rn_iald (pc := 91) dX2_weightOn_91 hv25 ?_
          refine rn_aload_n (pc := 92) 2 dX2_weightOn_92 rfl rfl ?_
          obtain ⟨v26, hv26, h22⟩ := bnd_some h21
          refine rn_getR (pc := 93) (k := 3) okX2 (by decide) tw_331 rfl dX2_weightOn_93 hv26 ?_
          refine rn_aload (pc := 96) 1 dX2_weightOn_96 rfl ?_
          obtain ⟨v27, hv27, h23⟩ := bnd_some h22
          refine rn_getI (pc := 98) (k := 2) okX5 (by decide) tw_237 rfl dX2_weightOn_98 hv27 ?_
          refine rn_iconst (pc := 101) (v := 5) dX2_weightOn_101 (by decide) ?_
          obtain ⟨b28, hb28, h24⟩ := bnd_some h23
          obtain ⟨qb28, kb28⟩ := chk_elim hb28
          subst qb28
          obtain ⟨v29, hv29, h25⟩ := bnd_some h24
          refine rn_callV (pc := 102) (n := 2) (As := [.int v27, .int (5 : Int32)]) (rest := [.int v25, .int s3]) (eX7_cost (d := d + 0) hv29) (by omega) okX7 kb28 tw_684 tw_71 tw_804 tw_682 tw_683 (by decide +kernel) rfl (Nat.le_of_ble_eq_true rfl) dX2_weightOn_102 rfl ?_
          refine rn_imul (pc := 105) dX2_weightOn_105 ?_
          refine rn_iadd (pc := 106) dX2_weightOn_106 ?_
          obtain ⟨x30, ex30, h26⟩ := nm_elim h25
          refine rn_topi ex30 ?_
          refine rn_istore_n (pc := 107) (lv' := [(3, .int x30), (7, .int v11), (6, rv (some b12)), (0, rv (some t0)), (1, .int i1), (2, .int i2), (4, .int s4), (5, .int s5)]) dX2_weightOn_107 rfl (by decide) rfl ?_
          refine rn_iload (pc := 108) 6 dX2_weightOn_108 rfl ?_
          refine rn_aload_n (pc := 110) 3 dX2_weightOn_110 rfl rfl ?_
          obtain ⟨v31, hv31, h27⟩ := bnd_some h26
          refine rn_getR (pc := 111) (k := 4) okX2 (by decide) tw_332 rfl dX2_weightOn_111 hv31 ?_
          obtain ⟨v32, hv32, h28⟩ := bnd_some h27
          refine rn_getR (pc := 114) (k := 1) okX1 (by decide) tw_298 rfl dX2_weightOn_114 hv32 ?_
          refine rn_iload (pc := 117) 1 dX2_weightOn_117 rfl ?_
          obtain ⟨v33, hv33, h29⟩ := bnd_some h28
          refine rn_iald (pc := 119) dX2_weightOn_119 hv33 ?_
          refine rn_iadd (pc := 120) dX2_weightOn_120 ?_
          obtain ⟨x34, ex34, h30⟩ := nm_elim h29
          refine rn_topi ex34 ?_
          refine rn_istore (pc := 121) (lv' := [(4, .int x34), (3, .int x30), (7, .int v11), (6, rv (some b12)), (0, rv (some t0)), (1, .int i1), (2, .int i2), (5, .int s5)]) dX2_weightOn_121 (by decide) rfl ?_
          obtain ⟨x35, ex35, h31⟩ := nm_elim h30
          refine rn_iinc (pc := 123) (v := x35) (lv' := [(5, .int x35), (4, .int x34), (3, .int x30), (7, .int v11), (6, rv (some b12)), (0, rv (some t0)), (1, .int i1), (2, .int i2)]) 7 dX2_weightOn_123 rfl (by rw [ex35]; rfl) (by decide) rfl ?_
          refine rn_goto (pc := 126) (tgt := 20) dX2_weightOn_126 (by decide) ?_
          cases h31
          exact rn_sub [5, 6, 7, 2, 1, 0] rfl (k0 _ rfl)
      · refine rn_ige_t (pc := 66) (tgt := 123) dX2_weightOn_66 (by decide) c17 ?_
        obtain ⟨x36, ex36, h32⟩ := nm_elim h13
        refine rn_iinc (pc := 123) (v := x36) (lv' := [(5, .int x36), (7, .int v11), (6, rv (some b12)), (0, rv (some t0)), (1, .int i1), (2, .int i2), (3, .int s3), (4, .int s4)]) 7 dX2_weightOn_123 rfl (by rw [ex36]; rfl) (by decide) rfl ?_
        refine rn_goto (pc := 126) (tgt := 20) dX2_weightOn_126 (by decide) ?_
        cases h32
        exact rn_sub [3, 4, 5, 6, 7, 0] rfl (k0 _ rfl)
  · refine rn_ige_t (pc := 29) (tgt := 129) dX2_weightOn_29 (by decide) c7 ?_
    cases h3
    exact rn_sub [3, 4] rfl (k1 _ rfl)
theorem lX2_weightOn_20 {l : Launch} {G : Gt} {d : Nat} {t0 : Nat} {i1 : Int32} {i2 : Int32} {u : Mem} {N : Nat} {s0 : Int32 × Int32 × Int32} {r : Int32 × Int32} {o : Outcome} {u' : Mem} (h : lp (fun s : Int32 × Int32 × Int32 => bX2_weightOn_20 t0 i1 i2 u s.1 s.2.1 s.2.2) N s0 = some r) (k1 : Rn l G iX2_weightOn (d + 1) 129 [(3, .int r.1), (4, .int r.2)] [] u o u') : Rn l G iX2_weightOn (d + 1) 20 [(0, rv (some t0)), (1, .int i1), (2, .int i2), (3, .int s0.1), (4, .int s0.2.1), (5, .int s0.2.2)] [] u o u' :=
  lp_run (P := fun s : Int32 × Int32 × Int32 => Rn l G iX2_weightOn (d + 1) 20 [(0, rv (some t0)), (1, .int i1), (2, .int i2), (3, .int s.1), (4, .int s.2.1), (5, .int s.2.2)] [] u o u') (E := fun r => Rn l G iX2_weightOn (d + 1) 129 [(3, .int r.1), (4, .int r.2)] [] u o u') (fun s y hy k0 kE => btX2_weightOn_20 hy (fun s' e => k0 s' e) (fun r e => kE r e)) N s0 r h k1
theorem tX2_weightOn {l : Launch} {G : Gt} {d : Nat} {t0 : Nat} {p1 : Int32} {p2 : Int32} {u : Mem} {y : Int32} (h : fX2_weightOn t0 p1 p2 u = some y) : Rn l G iX2_weightOn (d + 1) 0 [(0, rv (some t0)), (1, .int p1), (2, .int p2)] [] u (.returned (some (.int y))) u := by
  unfold fX2_weightOn at h
  refine rn_aload_n (pc := 0) 0 dX2_weightOn_0 rfl rfl ?_
  obtain ⟨v1, hv1, h1⟩ := bnd_some h
  refine rn_getR (pc := 1) (k := 3) okX2 (by decide) tw_331 rfl dX2_weightOn_1 hv1 ?_
  obtain ⟨b2, hb2, h2⟩ := bnd_some h1
  obtain ⟨qb2, kb2⟩ := chk_elim hb2
  subst qb2
  obtain ⟨v3, hv3, h3⟩ := bnd_some h2
  refine rn_callV (pc := 4) (n := 0) (As := []) (rest := []) (eX7_weighsByPast (d := d + 0) hv3) (by omega) okX7 kb2 tw_801 tw_71 tw_798 tw_799 tw_800 (by decide +kernel) rfl (Nat.le_of_ble_eq_true rfl) dX2_weightOn_4 rfl ?_
  rcases if_elim h3 with ⟨c4, h4⟩ | ⟨c4, h4⟩
  · refine rn_zne_f (pc := 7) 12 dX2_weightOn_7 (by decide) c4 ?_
    refine rn_iconst (pc := 10) (v := 1) dX2_weightOn_10 (by decide) ?_
    cases h4
    exact rn_iret (pc := 11) rfl dX2_weightOn_11
  · refine rn_zne_t (pc := 7) (tgt := 12) dX2_weightOn_7 (by decide) c4 ?_
    refine rn_iconst (pc := 12) (v := 0) dX2_weightOn_12 (by decide) ?_
    refine rn_istore_n (pc := 13) (lv' := [(3, .int (0 : Int32)), (0, rv (some t0)), (1, .int p1), (2, .int p2)]) dX2_weightOn_13 rfl (by decide) rfl ?_
    refine rn_iconst (pc := 14) (v := 0) dX2_weightOn_14 (by decide) ?_
    refine rn_istore (pc := 15) (lv' := [(4, .int (0 : Int32)), (3, .int (0 : Int32)), (0, rv (some t0)), (1, .int p1), (2, .int p2)]) dX2_weightOn_15 (by decide) rfl ?_
    refine rn_iconst (pc := 17) (v := 0) dX2_weightOn_17 (by decide) ?_
    refine rn_istore (pc := 18) (lv' := [(5, .int (0 : Int32)), (4, .int (0 : Int32)), (3, .int (0 : Int32)), (0, rv (some t0)), (1, .int p1), (2, .int p2)]) dX2_weightOn_18 (by decide) rfl ?_
    obtain ⟨r37, hr37, h5⟩ := bnd_some h4
    refine rn_sub [3, 4, 5, 2, 1, 0] rfl (lX2_weightOn_20 hr37 ?_)
    refine rn_iload_n (pc := 129) 0 dX2_weightOn_129 rfl rfl ?_
    refine rn_iload (pc := 130) 1 dX2_weightOn_130 rfl ?_
    rcases if_elim h5 with ⟨c38, h6⟩ | ⟨c38, h6⟩
    · refine rn_ile_f (pc := 132) 149 dX2_weightOn_132 (by decide) c38 ?_
      refine rn_iconst (pc := 135) (v := 1) dX2_weightOn_135 (by decide) ?_
      refine rn_bipush (pc := 136) (v := 100) dX2_weightOn_136 (by decide) ?_
      refine rn_iload_n (pc := 138) 0 dX2_weightOn_138 rfl rfl ?_
      refine rn_iload (pc := 139) 1 dX2_weightOn_139 rfl ?_
      refine rn_isub (pc := 141) dX2_weightOn_141 ?_
      refine rn_imul (pc := 142) dX2_weightOn_142 ?_
      refine rn_iload_n (pc := 143) 0 dX2_weightOn_143 rfl rfl ?_
      obtain ⟨z39, hz39, h7⟩ := bnd_some h6
      have hz39 := (nz32_elim hz39).2
      refine rn_idiv (pc := 144) dX2_weightOn_144 hz39 ?_
      refine rn_iadd (pc := 145) dX2_weightOn_145 ?_
      refine rn_goto (pc := 146) (tgt := 150) dX2_weightOn_146 (by decide) ?_
      cases h7
      exact rn_iret (pc := 150) rfl dX2_weightOn_150
    · refine rn_ile_t (pc := 132) (tgt := 149) dX2_weightOn_132 (by decide) c38 ?_
      refine rn_iconst (pc := 149) (v := 1) dX2_weightOn_149 (by decide) ?_
      cases h6
      exact rn_iret (pc := 150) rfl dX2_weightOn_150
theorem eX2_weightOn {l : Launch} {G : Gt} {d : Nat} {t0 : Nat} {p1 : Int32} {p2 : Int32} {u : Mem} {y : Int32} (h : fX2_weightOn t0 p1 p2 u = some y) : Ex l G iX2_weightOn (d + 1) [rv (some t0), .int p1, .int p2] u (.returned (some (.int y))) u := Ex.of (by decide +kernel) (by decide) (Nat.le_of_ble_eq_true rfl) rfl (tX2_weightOn h)
theorem btX2_copiesAHolder_2 {l : Launch} {G : Gt} {d : Nat} {t0 : Nat} {i1 : Int32} {i2 : Int32} {u : Mem} {s3 : Int32} {y : (Int32) ⊕ ((Unit) ⊕ (Unit))} {o : Outcome} {u' : Mem} (h : bX2_copiesAHolder_2 t0 i1 i2 u s3 = some y) (k0 : ∀ s' : Int32, y = .inl s' → Rn l G iX2_copiesAHolder (d + 1) 2 [(0, rv (some t0)), (1, .int i1), (2, .int i2), (3, .int s')] [] u o u') (k1 : ∀ r : Unit, y = .inr (.inl r) → Rn l G iX2_copiesAHolder (d + 1) 40 [] [] u o u') (k2 : ∀ r : Unit, y = .inr (.inr (r)) → Rn l G iX2_copiesAHolder (d + 1) 32 [] [] u o u') : Rn l G iX2_copiesAHolder (d + 1) 2 [(0, rv (some t0)), (1, .int i1), (2, .int i2), (3, .int s3)] [] u o u' := by
  unfold bX2_copiesAHolder_2 at h
  refine rn_iload_n (pc := 2) 3 dX2_copiesAHolder_2 rfl rfl ?_
  refine rn_bipush (pc := 3) (v := 20) dX2_copiesAHolder_3 (by decide) ?_
  rcases if_elim h with ⟨c1, h1⟩ | ⟨c1, h1⟩
  · refine rn_ige_f (pc := 5) 40 dX2_copiesAHolder_5 (by decide) c1 ?_
    refine rn_aload_n (pc := 8) 0 dX2_copiesAHolder_8 rfl rfl ?_
    obtain ⟨v2, hv2, h2⟩ := bnd_some h1
    refine rn_getR (pc := 9) (k := 8) okX2 (by decide) tw_336 rfl dX2_copiesAHolder_9 hv2 ?_
    refine rn_iload_n (pc := 12) 3 dX2_copiesAHolder_12 rfl rfl ?_
    obtain ⟨v3, hv3, h3⟩ := bnd_some h2
    refine rn_iald (pc := 13) dX2_copiesAHolder_13 hv3 ?_
    refine rn_iconst (pc := 14) (v := -1) dX2_copiesAHolder_14 (by decide) ?_
    rcases if_elim h3 with ⟨c4, h4⟩ | ⟨c4, h4⟩
    · refine rn_ieq_t (pc := 15) (tgt := 34) dX2_copiesAHolder_15 (by decide) c4 ?_
      obtain ⟨x5, ex5, h5⟩ := nm_elim h4
      refine rn_iinc (pc := 34) (v := x5) (lv' := [(3, .int x5), (0, rv (some t0)), (1, .int i1), (2, .int i2)]) 3 dX2_copiesAHolder_34 rfl (by rw [ex5]; rfl) (by decide) rfl ?_
      refine rn_goto (pc := 37) (tgt := 2) dX2_copiesAHolder_37 (by decide) ?_
      cases h5
      exact rn_sub [1, 2, 3, 0] rfl (k0 _ rfl)
    · refine rn_ieq_f (pc := 15) 34 dX2_copiesAHolder_15 (by decide) c4 ?_
      refine rn_aload_n (pc := 18) 0 dX2_copiesAHolder_18 rfl rfl ?_
      obtain ⟨v6, hv6, h6⟩ := bnd_some h4
      refine rn_getR (pc := 19) (k := 5) okX2 (by decide) tw_333 rfl dX2_copiesAHolder_19 hv6 ?_
      refine rn_iload_n (pc := 22) 1 dX2_copiesAHolder_22 rfl rfl ?_
      refine rn_iload_n (pc := 23) 3 dX2_copiesAHolder_23 rfl rfl ?_
      obtain ⟨v7, hv7, h7⟩ := bnd_some h6
      refine rn_callSN (pc := 24) (host := "ForeBook") (n := 2) (As := [.int i1, .int s3]) (rest := [rv v6]) (eX10_pair (d := d + 0) hv7) (by omega) tw_793 tw_68 (by decide +kernel) tw_792 (by decide +kernel) rfl (cat_le8 (Nat.le_of_ble_eq_true rfl)) dX2_copiesAHolder_24 rfl ?_
      obtain ⟨v8, hv8, h8⟩ := bnd_some h7
      refine rn_iald (pc := 27) dX2_copiesAHolder_27 hv8 ?_
      refine rn_iload_n (pc := 28) 2 dX2_copiesAHolder_28 rfl rfl ?_
      rcases if_elim h8 with ⟨c9, h9⟩ | ⟨c9, h9⟩
      · refine rn_igt_t (pc := 29) (tgt := 34) dX2_copiesAHolder_29 (by decide) c9 ?_
        obtain ⟨x10, ex10, h10⟩ := nm_elim h9
        refine rn_iinc (pc := 34) (v := x10) (lv' := [(3, .int x10), (0, rv (some t0)), (1, .int i1), (2, .int i2)]) 3 dX2_copiesAHolder_34 rfl (by rw [ex10]; rfl) (by decide) rfl ?_
        refine rn_goto (pc := 37) (tgt := 2) dX2_copiesAHolder_37 (by decide) ?_
        cases h10
        exact rn_sub [1, 2, 3, 0] rfl (k0 _ rfl)
      · refine rn_igt_f (pc := 29) 34 dX2_copiesAHolder_29 (by decide) c9 ?_
        cases h9
        exact rn_sub [] rfl (k2 _ rfl)
  · refine rn_ige_t (pc := 5) (tgt := 40) dX2_copiesAHolder_5 (by decide) c1 ?_
    cases h1
    exact rn_sub [] rfl (k1 _ rfl)
theorem lX2_copiesAHolder_2 {l : Launch} {G : Gt} {d : Nat} {t0 : Nat} {i1 : Int32} {i2 : Int32} {u : Mem} {N : Nat} {s0 : Int32} {r : (Unit) ⊕ (Unit)} {o : Outcome} {u' : Mem} (h : lp (fun s : Int32 => bX2_copiesAHolder_2 t0 i1 i2 u s) N s0 = some r) (k1 : ∀ r' : Unit, r = .inl r' → Rn l G iX2_copiesAHolder (d + 1) 40 [] [] u o u') (k2 : ∀ r' : Unit, r = .inr (r') → Rn l G iX2_copiesAHolder (d + 1) 32 [] [] u o u') : Rn l G iX2_copiesAHolder (d + 1) 2 [(0, rv (some t0)), (1, .int i1), (2, .int i2), (3, .int s0)] [] u o u' :=
  lp_run (P := fun s : Int32 => Rn l G iX2_copiesAHolder (d + 1) 2 [(0, rv (some t0)), (1, .int i1), (2, .int i2), (3, .int s)] [] u o u') (E := fun r => (∀ r' : Unit, r = .inl r' → Rn l G iX2_copiesAHolder (d + 1) 40 [] [] u o u') ∧ (∀ r' : Unit, r = .inr (r') → Rn l G iX2_copiesAHolder (d + 1) 32 [] [] u o u')) (fun s y hy k0 kE => btX2_copiesAHolder_2 hy (fun s' e => k0 s' e) (fun r e => (kE _ e).1 r rfl) (fun r e => (kE _ e).2 r rfl)) N s0 r h ⟨k1, k2⟩
theorem tX2_copiesAHolder {l : Launch} {G : Gt} {d : Nat} {t0 : Nat} {p1 : Int32} {p2 : Int32} {u : Mem} {y : Int32} (h : fX2_copiesAHolder t0 p1 p2 u = some y) : Rn l G iX2_copiesAHolder (d + 1) 0 [(0, rv (some t0)), (1, .int p1), (2, .int p2)] [] u (.returned (some (.int y))) u := by
  unfold fX2_copiesAHolder at h
  refine rn_iconst (pc := 0) (v := 0) dX2_copiesAHolder_0 (by decide) ?_
  refine rn_istore_n (pc := 1) (lv' := [(3, .int (0 : Int32)), (0, rv (some t0)), (1, .int p1), (2, .int p2)]) dX2_copiesAHolder_1 rfl (by decide) rfl ?_
  obtain ⟨r11, hr11, h1⟩ := bnd_some h
  rcases r11 with r12 | r13
  · refine rn_sub [1, 2, 3, 0] rfl (lX2_copiesAHolder_2 hr11 (fun _ hq => ?_) (fun _ hq => by cases hq))
    cases hq
    have h2 := sumE_l h1
    refine rn_iconst (pc := 40) (v := 0) dX2_copiesAHolder_40 (by decide) ?_
    cases h2
    exact rn_zret (pc := 41) (by decide) rfl dX2_copiesAHolder_41
  · refine rn_sub [1, 2, 3, 0] rfl (lX2_copiesAHolder_2 hr11 (fun _ hq => by cases hq) (fun _ hq => ?_))
    cases hq
    have h3 := sumE_r h1
    refine rn_iconst (pc := 32) (v := 1) dX2_copiesAHolder_32 (by decide) ?_
    cases h3
    exact rn_zret (pc := 33) (by decide) rfl dX2_copiesAHolder_33
theorem eX2_copiesAHolder {l : Launch} {G : Gt} {d : Nat} {t0 : Nat} {p1 : Int32} {p2 : Int32} {u : Mem} {y : Int32} (h : fX2_copiesAHolder t0 p1 p2 u = some y) : Ex l G iX2_copiesAHolder (d + 1) [rv (some t0), .int p1, .int p2] u (.returned (some (.int y))) u := Ex.of (by decide +kernel) (by decide) (Nat.le_of_ble_eq_true rfl) rfl (tX2_copiesAHolder h)
theorem btX2_tenthAtHalf_4 {l : Launch} {G : Gt} {d : Nat} {t0 : Nat} {i1 : Int32} {u : Mem} {s2 : Int32} {s3 : Int32} {y : (Int32 × Int32) ⊕ ((Unit) ⊕ (Int32))} {o : Outcome} {u' : Mem} (h : bX2_tenthAtHalf_4 t0 i1 u s2 s3 = some y) (k0 : ∀ s' : Int32 × Int32, y = .inl s' → Rn l G iX2_tenthAtHalf d 4 [(0, rv (some t0)), (1, .int i1), (2, .int s'.1), (3, .int s'.2)] [] u o u') (k1 : ∀ r : Unit, y = .inr (.inl r) → Rn l G iX2_tenthAtHalf d 34 [] [] u o u') (k2 : ∀ r : Int32, y = .inr (.inr (r)) → Rn l G iX2_tenthAtHalf d 26 [(3, .int r)] [] u o u') : Rn l G iX2_tenthAtHalf d 4 [(0, rv (some t0)), (1, .int i1), (2, .int s2), (3, .int s3)] [] u o u' := by
  unfold bX2_tenthAtHalf_4 at h
  refine rn_iload_n (pc := 4) 3 dX2_tenthAtHalf_4 rfl rfl ?_
  refine rn_bipush (pc := 5) (v := 11) dX2_tenthAtHalf_5 (by decide) ?_
  rcases if_elim h with ⟨c1, h1⟩ | ⟨c1, h1⟩
  · refine rn_ige_f (pc := 7) 34 dX2_tenthAtHalf_7 (by decide) c1 ?_
    refine rn_iload_n (pc := 10) 2 dX2_tenthAtHalf_10 rfl rfl ?_
    refine rn_aload_n (pc := 11) 0 dX2_tenthAtHalf_11 rfl rfl ?_
    obtain ⟨v2, hv2, h2⟩ := bnd_some h1
    refine rn_getR (pc := 12) (k := 9) okX2 (by decide) tw_337 rfl dX2_tenthAtHalf_12 hv2 ?_
    refine rn_iload_n (pc := 15) 3 dX2_tenthAtHalf_15 rfl rfl ?_
    obtain ⟨v3, hv3, h3⟩ := bnd_some h2
    refine rn_iald (pc := 16) dX2_tenthAtHalf_16 hv3 ?_
    refine rn_iadd (pc := 17) dX2_tenthAtHalf_17 ?_
    obtain ⟨x4, ex4, h4⟩ := nm_elim h3
    refine rn_topi ex4 ?_
    refine rn_istore_n (pc := 18) (lv' := [(2, .int x4), (0, rv (some t0)), (1, .int i1), (3, .int s3)]) dX2_tenthAtHalf_18 rfl (by decide) rfl ?_
    refine rn_iconst (pc := 19) (v := 2) dX2_tenthAtHalf_19 (by decide) ?_
    refine rn_iload_n (pc := 20) 0 dX2_tenthAtHalf_20 rfl rfl ?_
    refine rn_imul (pc := 21) dX2_tenthAtHalf_21 ?_
    refine rn_iload_n (pc := 22) 2 dX2_tenthAtHalf_22 rfl rfl ?_
    rcases if_elim h4 with ⟨c5, h5⟩ | ⟨c5, h5⟩
    · refine rn_ilt_t (pc := 23) (tgt := 28) dX2_tenthAtHalf_23 (by decide) c5 ?_
      obtain ⟨x6, ex6, h6⟩ := nm_elim h5
      refine rn_iinc (pc := 28) (v := x6) (lv' := [(3, .int x6), (2, .int x4), (0, rv (some t0)), (1, .int i1)]) 3 dX2_tenthAtHalf_28 rfl (by rw [ex6]; rfl) (by decide) rfl ?_
      refine rn_goto (pc := 31) (tgt := 4) dX2_tenthAtHalf_31 (by decide) ?_
      cases h6
      exact rn_sub [2, 3, 1, 0] rfl (k0 _ rfl)
    · refine rn_ilt_f (pc := 23) 28 dX2_tenthAtHalf_23 (by decide) c5 ?_
      cases h5
      exact rn_sub [3] rfl (k2 _ rfl)
  · refine rn_ige_t (pc := 7) (tgt := 34) dX2_tenthAtHalf_7 (by decide) c1 ?_
    cases h1
    exact rn_sub [] rfl (k1 _ rfl)
theorem lX2_tenthAtHalf_4 {l : Launch} {G : Gt} {d : Nat} {t0 : Nat} {i1 : Int32} {u : Mem} {N : Nat} {s0 : Int32 × Int32} {r : (Unit) ⊕ (Int32)} {o : Outcome} {u' : Mem} (h : lp (fun s : Int32 × Int32 => bX2_tenthAtHalf_4 t0 i1 u s.1 s.2) N s0 = some r) (k1 : ∀ r' : Unit, r = .inl r' → Rn l G iX2_tenthAtHalf d 34 [] [] u o u') (k2 : ∀ r' : Int32, r = .inr (r') → Rn l G iX2_tenthAtHalf d 26 [(3, .int r')] [] u o u') : Rn l G iX2_tenthAtHalf d 4 [(0, rv (some t0)), (1, .int i1), (2, .int s0.1), (3, .int s0.2)] [] u o u' :=
  lp_run (P := fun s : Int32 × Int32 => Rn l G iX2_tenthAtHalf d 4 [(0, rv (some t0)), (1, .int i1), (2, .int s.1), (3, .int s.2)] [] u o u') (E := fun r => (∀ r' : Unit, r = .inl r' → Rn l G iX2_tenthAtHalf d 34 [] [] u o u') ∧ (∀ r' : Int32, r = .inr (r') → Rn l G iX2_tenthAtHalf d 26 [(3, .int r')] [] u o u')) (fun s y hy k0 kE => btX2_tenthAtHalf_4 hy (fun s' e => k0 s' e) (fun r e => (kE _ e).1 r rfl) (fun r e => (kE _ e).2 r rfl)) N s0 r h ⟨k1, k2⟩
theorem tX2_tenthAtHalf {l : Launch} {G : Gt} {d : Nat} {t0 : Nat} {p1 : Int32} {u : Mem} {y : Int32} (h : fX2_tenthAtHalf t0 p1 u = some y) : Rn l G iX2_tenthAtHalf d 0 [(0, rv (some t0)), (1, .int p1)] [] u (.returned (some (.int y))) u := by
  unfold fX2_tenthAtHalf at h
  refine rn_iconst (pc := 0) (v := 0) dX2_tenthAtHalf_0 (by decide) ?_
  refine rn_istore_n (pc := 1) (lv' := [(2, .int (0 : Int32)), (0, rv (some t0)), (1, .int p1)]) dX2_tenthAtHalf_1 rfl (by decide) rfl ?_
  refine rn_iconst (pc := 2) (v := 0) dX2_tenthAtHalf_2 (by decide) ?_
  refine rn_istore_n (pc := 3) (lv' := [(3, .int (0 : Int32)), (2, .int (0 : Int32)), (0, rv (some t0)), (1, .int p1)]) dX2_tenthAtHalf_3 rfl (by decide) rfl ?_
  obtain ⟨r7, hr7, h1⟩ := bnd_some h
  rcases r7 with r8 | r9
  · refine rn_sub [2, 3, 1, 0] rfl (lX2_tenthAtHalf_4 hr7 (fun _ hq => ?_) (fun _ hq => by cases hq))
    cases hq
    have h2 := sumE_l h1
    refine rn_bipush (pc := 34) (v := 10) dX2_tenthAtHalf_34 (by decide) ?_
    cases h2
    exact rn_iret (pc := 36) rfl dX2_tenthAtHalf_36
  · refine rn_sub [2, 3, 1, 0] rfl (lX2_tenthAtHalf_4 hr7 (fun _ hq => by cases hq) (fun _ hq => ?_))
    cases hq
    have h3 := sumE_r h1
    refine rn_iload_n (pc := 26) 0 dX2_tenthAtHalf_26 rfl rfl ?_
    cases h3
    exact rn_iret (pc := 27) rfl dX2_tenthAtHalf_27
theorem eX2_tenthAtHalf {l : Launch} {G : Gt} {d : Nat} {t0 : Nat} {p1 : Int32} {u : Mem} {y : Int32} (h : fX2_tenthAtHalf t0 p1 u = some y) : Ex l G iX2_tenthAtHalf d [rv (some t0), .int p1] u (.returned (some (.int y))) u := Ex.of (by decide +kernel) (by decide) (Nat.le_of_ble_eq_true rfl) rfl (tX2_tenthAtHalf h)
theorem btX2_joinHeld_2 {l : Launch} {G : Gt} {d : Nat} {t0 : Nat} {i1 : Int32} {i2 : Int32} {s3 : Int32} {u : Mem} {y : (Int32 × Mem) ⊕ (Mem)} {o : Outcome} {u' : Mem} (h : bX2_joinHeld_2 t0 i1 i2 s3 u = some y) (k0 : ∀ s' : Int32 × Mem, y = .inl s' → Rn l G iX2_joinHeld (d + 2) 2 [(0, rv (some t0)), (1, .int i1), (2, .int i2), (3, .int s'.1)] [] s'.2 o u') (k1 : ∀ r : Mem, y = .inr (r) → Rn l G iX2_joinHeld (d + 2) 30 [(0, rv (some t0)), (2, .int i2)] [] r o u') : Rn l G iX2_joinHeld (d + 2) 2 [(0, rv (some t0)), (1, .int i1), (2, .int i2), (3, .int s3)] [] u o u' := by
  unfold bX2_joinHeld_2 at h
  refine rn_iload_n (pc := 2) 3 dX2_joinHeld_2 rfl rfl ?_
  refine rn_bipush (pc := 3) (v := 20) dX2_joinHeld_3 (by decide) ?_
  rcases if_elim h with ⟨c1, h1⟩ | ⟨c1, h1⟩
  · refine rn_ige_f (pc := 5) 30 dX2_joinHeld_5 (by decide) c1 ?_
    refine rn_aload_n (pc := 8) 0 dX2_joinHeld_8 rfl rfl ?_
    obtain ⟨v2, hv2, h2⟩ := bnd_some h1
    refine rn_getR (pc := 9) (k := 8) okX2 (by decide) tw_336 rfl dX2_joinHeld_9 hv2 ?_
    refine rn_iload_n (pc := 12) 3 dX2_joinHeld_12 rfl rfl ?_
    refine rn_aload_n (pc := 13) 0 dX2_joinHeld_13 rfl rfl ?_
    obtain ⟨v3, hv3, h3⟩ := bnd_some h2
    refine rn_getR (pc := 14) (k := 2) okX2 (by decide) tw_330 rfl dX2_joinHeld_14 hv3 ?_
    refine rn_iload_n (pc := 17) 3 dX2_joinHeld_17 rfl rfl ?_
    refine rn_iload_n (pc := 18) 1 dX2_joinHeld_18 rfl rfl ?_
    refine rn_iload_n (pc := 19) 2 dX2_joinHeld_19 rfl rfl ?_
    obtain ⟨b4, hb4, h4⟩ := bnd_some h3
    obtain ⟨qb4, kb4⟩ := chk_elim hb4
    subst qb4
    obtain ⟨v5, hv5, h5⟩ := bnd_some h4
    refine rn_callV (pc := 20) (n := 3) (As := [.int s3, .int i1, .int i2]) (rest := [.int s3, rv v2]) (eX0_heldTenth (d := d + 0) hv5) (by omega) okX0 kb4 tw_650 tw_72 tw_816 tw_648 tw_649 (by decide +kernel) rfl (cat_le8 (Nat.le_of_ble_eq_true rfl)) dX2_joinHeld_20 rfl ?_
    obtain ⟨u6, hu6, h6⟩ := bnd_some h5
    refine rn_iast (pc := 23) dX2_joinHeld_23 hu6 ?_
    obtain ⟨x7, ex7, h7⟩ := nm_elim h6
    refine rn_iinc (pc := 24) (v := x7) (lv' := [(3, .int x7), (0, rv (some t0)), (1, .int i1), (2, .int i2)]) 3 dX2_joinHeld_24 rfl (by rw [ex7]; rfl) (by decide) rfl ?_
    refine rn_goto (pc := 27) (tgt := 2) dX2_joinHeld_27 (by decide) ?_
    cases h7
    exact rn_sub [1, 2, 3, 0] rfl (k0 _ rfl)
  · refine rn_ige_t (pc := 5) (tgt := 30) dX2_joinHeld_5 (by decide) c1 ?_
    cases h1
    exact rn_sub [0, 2] rfl (k1 _ rfl)
theorem lX2_joinHeld_2 {l : Launch} {G : Gt} {d : Nat} {t0 : Nat} {i1 : Int32} {i2 : Int32} {N : Nat} {s0 : Int32 × Mem} {r : Mem} {o : Outcome} {u' : Mem} (h : lp (fun s : Int32 × Mem => bX2_joinHeld_2 t0 i1 i2 s.1 s.2) N s0 = some r) (k1 : Rn l G iX2_joinHeld (d + 2) 30 [(0, rv (some t0)), (2, .int i2)] [] r o u') : Rn l G iX2_joinHeld (d + 2) 2 [(0, rv (some t0)), (1, .int i1), (2, .int i2), (3, .int s0.1)] [] s0.2 o u' :=
  lp_run (P := fun s : Int32 × Mem => Rn l G iX2_joinHeld (d + 2) 2 [(0, rv (some t0)), (1, .int i1), (2, .int i2), (3, .int s.1)] [] s.2 o u') (E := fun r => Rn l G iX2_joinHeld (d + 2) 30 [(0, rv (some t0)), (2, .int i2)] [] r o u') (fun s y hy k0 kE => btX2_joinHeld_2 hy (fun s' e => k0 s' e) (fun r e => kE r e)) N s0 r h k1
theorem btX2_joinHeld_43 {l : Launch} {G : Gt} {d : Nat} {t0 : Nat} {i2 : Int32} {s3 : Int32} {s4 : Int32} {u : Mem} {y : (Int32 × Int32 × Mem) ⊕ (Int32 × Mem)} {o : Outcome} {u' : Mem} (h : bX2_joinHeld_43 t0 i2 s3 s4 u = some y) (k0 : ∀ s' : Int32 × Int32 × Mem, y = .inl s' → Rn l G iX2_joinHeld (d + 2) 43 [(0, rv (some t0)), (2, .int i2), (3, .int s'.1), (4, .int s'.2.1)] [] s'.2.2 o u') (k1 : ∀ r : Int32 × Mem, y = .inr (r) → Rn l G iX2_joinHeld (d + 2) 108 [(0, rv (some t0)), (3, .int r.1)] [] r.2 o u') : Rn l G iX2_joinHeld (d + 2) 43 [(0, rv (some t0)), (2, .int i2), (3, .int s3), (4, .int s4)] [] u o u' := by
  unfold bX2_joinHeld_43 at h
  refine rn_iload (pc := 43) 3 dX2_joinHeld_43 rfl ?_
  refine rn_bipush (pc := 45) (v := 20) dX2_joinHeld_45 (by decide) ?_
  rcases if_elim h with ⟨c11, h1⟩ | ⟨c11, h1⟩
  · refine rn_ige_f (pc := 47) 108 dX2_joinHeld_47 (by decide) c11 ?_
    refine rn_aload_n (pc := 50) 0 dX2_joinHeld_50 rfl rfl ?_
    obtain ⟨v12, hv12, h2⟩ := bnd_some h1
    refine rn_getR (pc := 51) (k := 8) okX2 (by decide) tw_336 rfl dX2_joinHeld_51 hv12 ?_
    refine rn_iload (pc := 54) 3 dX2_joinHeld_54 rfl ?_
    obtain ⟨v13, hv13, h3⟩ := bnd_some h2
    refine rn_iald (pc := 56) dX2_joinHeld_56 hv13 ?_
    refine rn_iconst (pc := 57) (v := -1) dX2_joinHeld_57 (by decide) ?_
    rcases if_elim h3 with ⟨c14, h4⟩ | ⟨c14, h4⟩
    · refine rn_ieq_t (pc := 58) (tgt := 102) dX2_joinHeld_58 (by decide) c14 ?_
      obtain ⟨x15, ex15, h5⟩ := nm_elim h4
      refine rn_iinc (pc := 102) (v := x15) (lv' := [(4, .int x15), (0, rv (some t0)), (2, .int i2), (3, .int s3)]) 3 dX2_joinHeld_102 rfl (by rw [ex15]; rfl) (by decide) rfl ?_
      refine rn_goto (pc := 105) (tgt := 43) dX2_joinHeld_105 (by decide) ?_
      cases h5
      exact rn_sub [1, 2, 3, 0] rfl (k0 _ rfl)
    · refine rn_ieq_f (pc := 58) 102 dX2_joinHeld_58 (by decide) c14 ?_
      refine rn_aload_n (pc := 61) 0 dX2_joinHeld_61 rfl rfl ?_
      refine rn_iload (pc := 62) 3 dX2_joinHeld_62 rfl ?_
      refine rn_iload_n (pc := 64) 1 dX2_joinHeld_64 rfl rfl ?_
      obtain ⟨b16, hb16, h6⟩ := bnd_some h4
      obtain ⟨qb16, kb16⟩ := chk_elim hb16
      cases qb16
      obtain ⟨v17, hv17, h7⟩ := bnd_some h6
      refine rn_callV (pc := 65) (n := 2) (As := [.int s4, .int i2]) (rest := []) (eX2_copiesAHolder (d := d + 0) hv17) (by omega) okX2 kb16 tw_819 tw_75 tw_817 tw_818 tw_23 (by decide +kernel) rfl (Nat.le_of_ble_eq_true rfl) dX2_joinHeld_65 rfl ?_
      rcases if_elim h7 with ⟨c18, h8⟩ | ⟨c18, h8⟩
      · refine rn_zne_f (pc := 68) 102 dX2_joinHeld_68 (by decide) c18 ?_
        refine rn_aload_n (pc := 71) 0 dX2_joinHeld_71 rfl rfl ?_
        refine rn_iload (pc := 72) 3 dX2_joinHeld_72 rfl ?_
        refine rn_iload_n (pc := 74) 1 dX2_joinHeld_74 rfl rfl ?_
        obtain ⟨b19, hb19, h9⟩ := bnd_some h8
        obtain ⟨qb19, kb19⟩ := chk_elim hb19
        cases qb19
        obtain ⟨v20, hv20, h10⟩ := bnd_some h9
        refine rn_callV (pc := 75) (n := 2) (As := [.int s4, .int i2]) (rest := []) (eX2_weightOn (d := d + 0) hv20) (by omega) okX2 kb19 tw_797 tw_75 tw_820 tw_795 tw_796 (by decide +kernel) rfl (Nat.le_of_ble_eq_true rfl) dX2_joinHeld_75 rfl ?_
        refine rn_istore (pc := 78) (lv' := [(5, .int v20), (0, rv (some t0)), (2, .int i2), (3, .int s3), (4, .int s4)]) dX2_joinHeld_78 (by decide) rfl ?_
        refine rn_aload_n (pc := 80) 1 dX2_joinHeld_80 rfl rfl ?_
        obtain ⟨v21, hv21, h11⟩ := bnd_some h10
        refine rn_getR (pc := 81) (k := 9) okX2 (by decide) tw_337 rfl dX2_joinHeld_81 hv21 ?_
        refine rn_aload_n (pc := 84) 1 dX2_joinHeld_84 rfl rfl ?_
        obtain ⟨v22, hv22, h12⟩ := bnd_some h11
        refine rn_getR (pc := 85) (k := 8) okX2 (by decide) tw_336 rfl dX2_joinHeld_85 hv22 ?_
        refine rn_iload (pc := 88) 4 dX2_joinHeld_88 rfl ?_
        obtain ⟨v23, hv23, h13⟩ := bnd_some h12
        refine rn_iald (pc := 90) dX2_joinHeld_90 hv23 ?_
        refine rn_dup2 (pc := 91) dX2_joinHeld_91 rfl (rv_cat _) ?_
        obtain ⟨v24, hv24, h14⟩ := bnd_some h13
        refine rn_iald (pc := 92) dX2_joinHeld_92 hv24 ?_
        refine rn_iload (pc := 93) 0 dX2_joinHeld_93 rfl ?_
        refine rn_iadd (pc := 95) dX2_joinHeld_95 ?_
        obtain ⟨u25, hu25, h15⟩ := bnd_some h14
        refine rn_iast (pc := 96) dX2_joinHeld_96 hu25 ?_
        refine rn_iload_n (pc := 97) 3 dX2_joinHeld_97 rfl rfl ?_
        refine rn_iload (pc := 98) 0 dX2_joinHeld_98 rfl ?_
        refine rn_iadd (pc := 100) dX2_joinHeld_100 ?_
        obtain ⟨x26, ex26, h16⟩ := nm_elim h15
        refine rn_topi ex26 ?_
        refine rn_istore_n (pc := 101) (lv' := [(3, .int x26), (5, .int v20), (0, rv (some t0)), (2, .int i2), (4, .int s4)]) dX2_joinHeld_101 rfl (by decide) rfl ?_
        obtain ⟨x27, ex27, h17⟩ := nm_elim h16
        refine rn_iinc (pc := 102) (v := x27) (lv' := [(4, .int x27), (3, .int x26), (5, .int v20), (0, rv (some t0)), (2, .int i2)]) 4 dX2_joinHeld_102 rfl (by rw [ex27]; rfl) (by decide) rfl ?_
        refine rn_goto (pc := 105) (tgt := 43) dX2_joinHeld_105 (by decide) ?_
        cases h17
        exact rn_sub [3, 4, 1, 0] rfl (k0 _ rfl)
      · refine rn_zne_t (pc := 68) (tgt := 102) dX2_joinHeld_68 (by decide) c18 ?_
        obtain ⟨x28, ex28, h18⟩ := nm_elim h8
        refine rn_iinc (pc := 102) (v := x28) (lv' := [(4, .int x28), (0, rv (some t0)), (2, .int i2), (3, .int s3)]) 3 dX2_joinHeld_102 rfl (by rw [ex28]; rfl) (by decide) rfl ?_
        refine rn_goto (pc := 105) (tgt := 43) dX2_joinHeld_105 (by decide) ?_
        cases h18
        exact rn_sub [1, 2, 3, 0] rfl (k0 _ rfl)
  · refine rn_ige_t (pc := 47) (tgt := 108) dX2_joinHeld_47 (by decide) c11 ?_
    cases h1
    exact rn_sub [0, 2] rfl (k1 _ rfl)
theorem lX2_joinHeld_43 {l : Launch} {G : Gt} {d : Nat} {t0 : Nat} {i2 : Int32} {N : Nat} {s0 : Int32 × Int32 × Mem} {r : Int32 × Mem} {o : Outcome} {u' : Mem} (h : lp (fun s : Int32 × Int32 × Mem => bX2_joinHeld_43 t0 i2 s.1 s.2.1 s.2.2) N s0 = some r) (k1 : Rn l G iX2_joinHeld (d + 2) 108 [(0, rv (some t0)), (3, .int r.1)] [] r.2 o u') : Rn l G iX2_joinHeld (d + 2) 43 [(0, rv (some t0)), (2, .int i2), (3, .int s0.1), (4, .int s0.2.1)] [] s0.2.2 o u' :=
  lp_run (P := fun s : Int32 × Int32 × Mem => Rn l G iX2_joinHeld (d + 2) 43 [(0, rv (some t0)), (2, .int i2), (3, .int s.1), (4, .int s.2.1)] [] s.2.2 o u') (E := fun r => Rn l G iX2_joinHeld (d + 2) 108 [(0, rv (some t0)), (3, .int r.1)] [] r.2 o u') (fun s y hy k0 kE => btX2_joinHeld_43 hy (fun s' e => k0 s' e) (fun r e => kE r e)) N s0 r h k1
theorem tX2_joinHeld {l : Launch} {G : Gt} {d : Nat} {t0 : Nat} {p1 : Int32} {p2 : Int32} {u : Mem} {y : Int32 × Mem} (h : fX2_joinHeld t0 p1 p2 u = some y) : Rn l G iX2_joinHeld (d + 2) 0 [(0, rv (some t0)), (1, .int p1), (2, .int p2)] [] u (.returned (some (.int y.1))) y.2 := by
  unfold fX2_joinHeld at h
  refine rn_iconst (pc := 0) (v := 0) dX2_joinHeld_0 (by decide) ?_
  refine rn_istore_n (pc := 1) (lv' := [(3, .int (0 : Int32)), (0, rv (some t0)), (1, .int p1), (2, .int p2)]) dX2_joinHeld_1 rfl (by decide) rfl ?_
  obtain ⟨r8, hr8, h1⟩ := bnd_some h
  refine rn_sub [1, 2, 3, 0] rfl (lX2_joinHeld_2 hr8 ?_)
  refine rn_aload_n (pc := 30) 0 dX2_joinHeld_30 rfl rfl ?_
  obtain ⟨v9, hv9, h2⟩ := bnd_some h1
  refine rn_getR (pc := 31) (k := 9) okX2 (by decide) tw_337 rfl dX2_joinHeld_31 hv9 ?_
  refine rn_iconst (pc := 34) (v := 0) dX2_joinHeld_34 (by decide) ?_
  obtain ⟨u10, hu10, h3⟩ := bnd_some h2
  refine rn_callS (pc := 35) (n := 2) (As := [rv v9, .int (0 : Int32)]) (rest := []) (eJ7_fill_53178 (d := d + 1) hu10) (by omega) tw_397 tw_78 tw_784 tw_396 (by decide +kernel) rfl (Nat.le_of_ble_eq_true rfl) dX2_joinHeld_35 rfl ?_
  refine rn_iconst (pc := 38) (v := 0) dX2_joinHeld_38 (by decide) ?_
  refine rn_istore_n (pc := 39) (lv' := [(3, .int (0 : Int32)), (0, rv (some t0)), (2, .int p2)]) dX2_joinHeld_39 rfl (by decide) rfl ?_
  refine rn_iconst (pc := 40) (v := 0) dX2_joinHeld_40 (by decide) ?_
  refine rn_istore (pc := 41) (lv' := [(4, .int (0 : Int32)), (3, .int (0 : Int32)), (0, rv (some t0)), (2, .int p2)]) dX2_joinHeld_41 (by decide) rfl ?_
  obtain ⟨r29, hr29, h4⟩ := bnd_some h3
  refine rn_sub [2, 3, 1, 0] rfl (lX2_joinHeld_43 hr29 ?_)
  refine rn_iload_n (pc := 108) 1 dX2_joinHeld_108 rfl rfl ?_
  rcases if_elim h4 with ⟨c30, h5⟩ | ⟨c30, h5⟩
  · refine rn_zne_f (pc := 109) 116 dX2_joinHeld_109 (by decide) c30 ?_
    refine rn_iconst (pc := 112) (v := -1) dX2_joinHeld_112 (by decide) ?_
    refine rn_goto (pc := 113) (tgt := 121) dX2_joinHeld_113 (by decide) ?_
    cases h5
    exact rn_iret (pc := 121) rfl dX2_joinHeld_121
  · refine rn_zne_t (pc := 109) (tgt := 116) dX2_joinHeld_109 (by decide) c30 ?_
    refine rn_aload_n (pc := 116) 0 dX2_joinHeld_116 rfl rfl ?_
    refine rn_iload_n (pc := 117) 1 dX2_joinHeld_117 rfl rfl ?_
    obtain ⟨b31, hb31, h6⟩ := bnd_some h5
    obtain ⟨qb31, kb31⟩ := chk_elim hb31
    cases qb31
    obtain ⟨v32, hv32, h7⟩ := bnd_some h6
    refine rn_callV (pc := 118) (n := 1) (As := [.int r29.1]) (rest := []) (eX2_tenthAtHalf (d := d + 1) hv32) (by omega) okX2 kb31 tw_823 tw_75 tw_821 tw_822 tw_24 (by decide +kernel) rfl (Nat.le_of_ble_eq_true rfl) dX2_joinHeld_118 rfl ?_
    cases h7
    exact rn_iret (pc := 121) rfl dX2_joinHeld_121
theorem eX2_joinHeld {l : Launch} {G : Gt} {d : Nat} {t0 : Nat} {p1 : Int32} {p2 : Int32} {u : Mem} {y : Int32 × Mem} (h : fX2_joinHeld t0 p1 p2 u = some y) : Ex l G iX2_joinHeld (d + 2) [rv (some t0), .int p1, .int p2] u (.returned (some (.int y.1))) y.2 := Ex.of (by decide +kernel) (by decide) (Nat.le_of_ble_eq_true rfl) rfl (tX2_joinHeld h)
theorem tX2_joinedTenth {l : Launch} {G : Gt} {d : Nat} {t0 : Nat} {p1 : Int32} {p2 : Int32} {u : Mem} {y : Int32 × Mem} (h : fX2_joinedTenth t0 p1 p2 u = some y) : Rn l G iX2_joinedTenth (d + 3) 0 [(0, rv (some t0)), (1, .int p1), (2, .int p2)] [] u (.returned (some (.int y.1))) y.2 := by
  unfold fX2_joinedTenth at h
  refine rn_iload_n (pc := 0) 2 dX2_joinedTenth_0 rfl rfl ?_
  refine rn_aload_n (pc := 1) 0 dX2_joinedTenth_1 rfl rfl ?_
  obtain ⟨v1, hv1, h1⟩ := bnd_some h
  refine rn_getR (pc := 2) (k := 2) okX2 (by decide) tw_330 rfl dX2_joinedTenth_2 hv1 ?_
  obtain ⟨v2, hv2, h2⟩ := bnd_some h1
  refine rn_getR (pc := 5) (k := 0) okX0 (by decide) tw_257 rfl dX2_joinedTenth_5 hv2 ?_
  refine rn_iload_n (pc := 8) 1 dX2_joinedTenth_8 rfl rfl ?_
  obtain ⟨v3, hv3, h3⟩ := bnd_some h2
  refine rn_aald24 (pc := 9) dX2_joinedTenth_9 hv3 ?_
  obtain ⟨v4, hv4, h4⟩ := bnd_some h3
  refine rn_getI (pc := 10) (k := 0) okX5 (by decide) tw_230 rfl dX2_joinedTenth_10 hv4 ?_
  refine rn_isub (pc := 13) dX2_joinedTenth_13 ?_
  obtain ⟨x5, ex5, h5⟩ := nm_elim h4
  refine rn_topi ex5 ?_
  refine rn_istore_n (pc := 14) (lv' := [(3, .int x5), (0, rv (some t0)), (1, .int p1), (2, .int p2)]) dX2_joinedTenth_14 rfl (by decide) rfl ?_
  refine rn_iload_n (pc := 15) 0 dX2_joinedTenth_15 rfl rfl ?_
  rcases if_elim h5 with ⟨c6, h6⟩ | ⟨c6, h6⟩
  · refine rn_zge_f (pc := 16) 21 dX2_joinedTenth_16 (by decide) c6 ?_
    refine rn_iconst (pc := 19) (v := -1) dX2_joinedTenth_19 (by decide) ?_
    cases h6
    exact rn_iret (pc := 20) rfl dX2_joinedTenth_20
  · refine rn_zge_t (pc := 16) (tgt := 21) dX2_joinedTenth_16 (by decide) c6 ?_
    refine rn_iload_n (pc := 21) 0 dX2_joinedTenth_21 rfl rfl ?_
    refine rn_bipush (pc := 22) (v := 60) dX2_joinedTenth_22 (by decide) ?_
    rcases if_elim h6 with ⟨c7, h7⟩ | ⟨c7, h7⟩
    · refine rn_ilt_t (pc := 24) (tgt := 34) dX2_joinedTenth_24 (by decide) c7 ?_
      refine rn_iload_n (pc := 34) 2 dX2_joinedTenth_34 rfl rfl ?_
      refine rn_bipush (pc := 35) (v := 60) dX2_joinedTenth_35 (by decide) ?_
      refine rn_imul (pc := 37) dX2_joinedTenth_37 ?_
      refine rn_iload_n (pc := 38) 0 dX2_joinedTenth_38 rfl rfl ?_
      refine rn_iadd (pc := 39) dX2_joinedTenth_39 ?_
      obtain ⟨x8, ex8, h8⟩ := nm_elim h7
      refine rn_topi ex8 ?_
      refine rn_istore (pc := 40) (lv' := [(4, .int x8), (3, .int x5), (0, rv (some t0)), (1, .int p1), (2, .int p2)]) dX2_joinedTenth_40 (by decide) rfl ?_
      refine rn_aload_n (pc := 42) 2 dX2_joinedTenth_42 rfl rfl ?_
      obtain ⟨v9, hv9, h9⟩ := bnd_some h8
      refine rn_getR (pc := 43) (k := 7) okX2 (by decide) tw_335 rfl dX2_joinedTenth_43 hv9 ?_
      refine rn_iload (pc := 46) 0 dX2_joinedTenth_46 rfl ?_
      obtain ⟨v10, hv10, h10⟩ := bnd_some h9
      refine rn_iald (pc := 48) dX2_joinedTenth_48 hv10 ?_
      refine rn_bipush (pc := 49) (v := -2) dX2_joinedTenth_49 (by decide) ?_
      rcases if_elim h10 with ⟨c11, h11⟩ | ⟨c11, h11⟩
      · refine rn_ine_f (pc := 51) 67 dX2_joinedTenth_51 (by decide) c11 ?_
        refine rn_aload_n (pc := 54) 2 dX2_joinedTenth_54 rfl rfl ?_
        obtain ⟨v12, hv12, h12⟩ := bnd_some h11
        refine rn_getR (pc := 55) (k := 7) okX2 (by decide) tw_335 rfl dX2_joinedTenth_55 hv12 ?_
        refine rn_iload (pc := 58) 0 dX2_joinedTenth_58 rfl ?_
        refine rn_aload_n (pc := 60) 2 dX2_joinedTenth_60 rfl rfl ?_
        refine rn_iload_n (pc := 61) 3 dX2_joinedTenth_61 rfl rfl ?_
        refine rn_iload_n (pc := 62) 4 dX2_joinedTenth_62 rfl rfl ?_
        obtain ⟨b13, hb13, h13⟩ := bnd_some h12
        obtain ⟨qb13, kb13⟩ := chk_elim hb13
        cases qb13
        obtain ⟨v14, u15, hv14, h14⟩ := bnd2_some h13
        refine rn_callV (pc := 63) (n := 2) (As := [.int p1, .int p2]) (rest := [.int x8, rv v12]) (eX2_joinHeld (d := d + 0) hv14) (by omega) okX2 kb13 tw_815 tw_75 tw_813 tw_814 tw_22 (by decide +kernel) rfl (cat_le8 (Nat.le_of_ble_eq_true rfl)) dX2_joinedTenth_63 rfl ?_
        obtain ⟨u16, hu16, h15⟩ := bnd_some h14
        refine rn_iast (pc := 66) dX2_joinedTenth_66 hu16 ?_
        refine rn_aload_n (pc := 67) 2 dX2_joinedTenth_67 rfl rfl ?_
        obtain ⟨v17, hv17, h16⟩ := bnd_some h15
        refine rn_getR (pc := 68) (k := 7) okX2 (by decide) tw_335 rfl dX2_joinedTenth_68 hv17 ?_
        refine rn_iload (pc := 71) 0 dX2_joinedTenth_71 rfl ?_
        obtain ⟨v18, hv18, h17⟩ := bnd_some h16
        refine rn_iald (pc := 73) dX2_joinedTenth_73 hv18 ?_
        cases h17
        exact rn_iret (pc := 74) rfl dX2_joinedTenth_74
      · refine rn_ine_t (pc := 51) (tgt := 67) dX2_joinedTenth_51 (by decide) c11 ?_
        refine rn_aload_n (pc := 67) 2 dX2_joinedTenth_67 rfl rfl ?_
        obtain ⟨v19, hv19, h18⟩ := bnd_some h11
        refine rn_getR (pc := 68) (k := 7) okX2 (by decide) tw_335 rfl dX2_joinedTenth_68 hv19 ?_
        refine rn_iload (pc := 71) 0 dX2_joinedTenth_71 rfl ?_
        obtain ⟨v20, hv20, h19⟩ := bnd_some h18
        refine rn_iald (pc := 73) dX2_joinedTenth_73 hv20 ?_
        cases h19
        exact rn_iret (pc := 74) rfl dX2_joinedTenth_74
    · refine rn_ilt_f (pc := 24) 34 dX2_joinedTenth_24 (by decide) c7 ?_
      refine rn_aload_n (pc := 27) 1 dX2_joinedTenth_27 rfl rfl ?_
      refine rn_iload_n (pc := 28) 2 dX2_joinedTenth_28 rfl rfl ?_
      refine rn_iload_n (pc := 29) 3 dX2_joinedTenth_29 rfl rfl ?_
      obtain ⟨b21, hb21, h20⟩ := bnd_some h7
      obtain ⟨qb21, kb21⟩ := chk_elim hb21
      cases qb21
      obtain ⟨v22, u23, hv22, h21⟩ := bnd2_some h20
      refine rn_callV (pc := 30) (n := 2) (As := [.int p1, .int p2]) (rest := []) (eX2_joinHeld (d := d + 0) hv22) (by omega) okX2 kb21 tw_815 tw_75 tw_813 tw_814 tw_22 (by decide +kernel) rfl (Nat.le_of_ble_eq_true rfl) dX2_joinedTenth_30 rfl ?_
      cases h21
      exact rn_iret (pc := 33) rfl dX2_joinedTenth_33
theorem eX2_joinedTenth {l : Launch} {G : Gt} {d : Nat} {t0 : Nat} {p1 : Int32} {p2 : Int32} {u : Mem} {y : Int32 × Mem} (h : fX2_joinedTenth t0 p1 p2 u = some y) : Ex l G iX2_joinedTenth (d + 3) [rv (some t0), .int p1, .int p2] u (.returned (some (.int y.1))) y.2 := Ex.of (by decide +kernel) (by decide) (Nat.le_of_ble_eq_true rfl) rfl (tX2_joinedTenth h)
theorem btX2_joinedRows_18 {l : Launch} {G : Gt} {d : Nat} {t0 : Nat} {i1 : Int32} {i2 : Option Nat} {s3 : Int32} {s4 : Int32} {u : Mem} {y : (Int32 × Int32 × Mem) ⊕ (Int32 × Mem)} {o : Outcome} {u' : Mem} (h : bX2_joinedRows_18 t0 i1 i2 s3 s4 u = some y) (k0 : ∀ s' : Int32 × Int32 × Mem, y = .inl s' → Rn l G iX2_joinedRows (d + 4) 18 [(0, rv (some t0)), (1, .int i1), (2, rv i2), (3, .int s'.1), (4, .int s'.2.1)] [] s'.2.2 o u') (k1 : ∀ r : Int32 × Mem, y = .inr (r) → Rn l G iX2_joinedRows (d + 4) 47 [(3, .int r.1)] [] r.2 o u') : Rn l G iX2_joinedRows (d + 4) 18 [(0, rv (some t0)), (1, .int i1), (2, rv i2), (3, .int s3), (4, .int s4)] [] u o u' := by
  unfold bX2_joinedRows_18 at h
  refine rn_iload (pc := 18) 4 dX2_joinedRows_18 rfl ?_
  refine rn_aload_n (pc := 20) 2 dX2_joinedRows_20 rfl rfl ?_
  obtain ⟨b5, hb5, h1⟩ := bnd_some h
  obtain ⟨qb5, kb5⟩ := chk_elim hb5
  subst qb5
  obtain ⟨v6, hv6, h2⟩ := bnd_some h1
  refine rn_callV (pc := 21) (n := 0) (As := []) (rest := [.int s4]) (eX5_endOfRows (d := d + 2) hv6) (by omega) okX5 kb5 tw_676 tw_73 tw_832 tw_674 tw_675 (by decide +kernel) rfl (Nat.le_of_ble_eq_true rfl) dX2_joinedRows_21 rfl ?_
  rcases if_elim h2 with ⟨c7, h3⟩ | ⟨c7, h3⟩
  · refine rn_ige_f (pc := 24) 47 dX2_joinedRows_24 (by decide) c7 ?_
    refine rn_aload_n (pc := 27) 0 dX2_joinedRows_27 rfl rfl ?_
    refine rn_iload_n (pc := 28) 1 dX2_joinedRows_28 rfl rfl ?_
    refine rn_iload (pc := 29) 4 dX2_joinedRows_29 rfl ?_
    obtain ⟨b8, hb8, h4⟩ := bnd_some h3
    obtain ⟨qb8, kb8⟩ := chk_elim hb8
    cases qb8
    obtain ⟨v9, u10, hv9, h5⟩ := bnd2_some h4
    refine rn_callV (pc := 31) (n := 2) (As := [.int i1, .int s4]) (rest := []) (eX2_joinedTenth (d := d + 0) hv9) (by omega) okX2 kb8 tw_812 tw_75 tw_833 tw_810 tw_811 (by decide +kernel) rfl (Nat.le_of_ble_eq_true rfl) dX2_joinedRows_31 rfl ?_
    refine rn_iconst (pc := 34) (v := -1) dX2_joinedRows_34 (by decide) ?_
    rcases if_elim h5 with ⟨c11, h6⟩ | ⟨c11, h6⟩
    · refine rn_ieq_t (pc := 35) (tgt := 41) dX2_joinedRows_35 (by decide) c11 ?_
      obtain ⟨x12, ex12, h7⟩ := nm_elim h6
      refine rn_iinc (pc := 41) (v := x12) (lv' := [(4, .int x12), (0, rv (some t0)), (1, .int i1), (2, rv (some b5)), (3, .int s3)]) 4 dX2_joinedRows_41 rfl (by rw [ex12]; rfl) (by decide) rfl ?_
      refine rn_goto (pc := 44) (tgt := 18) dX2_joinedRows_44 (by decide) ?_
      cases h7
      exact rn_sub [1, 2, 3, 4, 0] rfl (k0 _ rfl)
    · refine rn_ieq_f (pc := 35) 41 dX2_joinedRows_35 (by decide) c11 ?_
      obtain ⟨x13, ex13, h8⟩ := nm_elim h6
      refine rn_iinc (pc := 38) (v := x13) (lv' := [(3, .int x13), (0, rv (some t0)), (1, .int i1), (2, rv (some b5)), (4, .int s4)]) 3 dX2_joinedRows_38 rfl (by rw [ex13]; rfl) (by decide) rfl ?_
      obtain ⟨x14, ex14, h9⟩ := nm_elim h8
      refine rn_iinc (pc := 41) (v := x14) (lv' := [(4, .int x14), (3, .int x13), (0, rv (some t0)), (1, .int i1), (2, rv (some b5))]) 4 dX2_joinedRows_41 rfl (by rw [ex14]; rfl) (by decide) rfl ?_
      refine rn_goto (pc := 44) (tgt := 18) dX2_joinedRows_44 (by decide) ?_
      cases h9
      exact rn_sub [2, 3, 4, 1, 0] rfl (k0 _ rfl)
  · refine rn_ige_t (pc := 24) (tgt := 47) dX2_joinedRows_24 (by decide) c7 ?_
    cases h3
    exact rn_sub [3] rfl (k1 _ rfl)
theorem lX2_joinedRows_18 {l : Launch} {G : Gt} {d : Nat} {t0 : Nat} {i1 : Int32} {i2 : Option Nat} {N : Nat} {s0 : Int32 × Int32 × Mem} {r : Int32 × Mem} {o : Outcome} {u' : Mem} (h : lp (fun s : Int32 × Int32 × Mem => bX2_joinedRows_18 t0 i1 i2 s.1 s.2.1 s.2.2) N s0 = some r) (k1 : Rn l G iX2_joinedRows (d + 4) 47 [(3, .int r.1)] [] r.2 o u') : Rn l G iX2_joinedRows (d + 4) 18 [(0, rv (some t0)), (1, .int i1), (2, rv i2), (3, .int s0.1), (4, .int s0.2.1)] [] s0.2.2 o u' :=
  lp_run (P := fun s : Int32 × Int32 × Mem => Rn l G iX2_joinedRows (d + 4) 18 [(0, rv (some t0)), (1, .int i1), (2, rv i2), (3, .int s.1), (4, .int s.2.1)] [] s.2.2 o u') (E := fun r => Rn l G iX2_joinedRows (d + 4) 47 [(3, .int r.1)] [] r.2 o u') (fun s y hy k0 kE => btX2_joinedRows_18 hy (fun s' e => k0 s' e) (fun r e => kE r e)) N s0 r h k1
theorem tX2_joinedRows {l : Launch} {G : Gt} {d : Nat} {t0 : Nat} {p1 : Int32} {u : Mem} {y : Int32 × Mem} (h : fX2_joinedRows t0 p1 u = some y) : Rn l G iX2_joinedRows (d + 4) 0 [(0, rv (some t0)), (1, .int p1)] [] u (.returned (some (.int y.1))) y.2 := by
  unfold fX2_joinedRows at h
  refine rn_aload_n (pc := 0) 0 dX2_joinedRows_0 rfl rfl ?_
  obtain ⟨v1, hv1, h1⟩ := bnd_some h
  refine rn_getR (pc := 1) (k := 2) okX2 (by decide) tw_330 rfl dX2_joinedRows_1 hv1 ?_
  obtain ⟨v2, hv2, h2⟩ := bnd_some h1
  refine rn_getR (pc := 4) (k := 0) okX0 (by decide) tw_257 rfl dX2_joinedRows_4 hv2 ?_
  refine rn_iload_n (pc := 7) 1 dX2_joinedRows_7 rfl rfl ?_
  obtain ⟨v3, hv3, h3⟩ := bnd_some h2
  refine rn_aald24 (pc := 8) dX2_joinedRows_8 hv3 ?_
  refine rn_astore_n (pc := 9) (lv' := [(2, rv v3), (0, rv (some t0)), (1, .int p1)]) dX2_joinedRows_9 rfl (by decide) rfl ?_
  refine rn_iconst (pc := 10) (v := 0) dX2_joinedRows_10 (by decide) ?_
  refine rn_istore_n (pc := 11) (lv' := [(3, .int (0 : Int32)), (2, rv v3), (0, rv (some t0)), (1, .int p1)]) dX2_joinedRows_11 rfl (by decide) (by generalize v3 = q; cases q <;> rfl) ?_
  refine rn_aload_n (pc := 12) 1 dX2_joinedRows_12 rfl rfl ?_
  obtain ⟨v4, hv4, h4⟩ := bnd_some h3
  refine rn_getI (pc := 13) (k := 0) okX5 (by decide) tw_230 rfl dX2_joinedRows_13 hv4 ?_
  refine rn_istore (pc := 16) (lv' := [(4, .int v4), (3, .int (0 : Int32)), (2, rv v3), (0, rv (some t0)), (1, .int p1)]) dX2_joinedRows_16 (by decide) rfl ?_
  obtain ⟨r15, hr15, h5⟩ := bnd_some h4
  refine rn_sub [3, 4, 2, 1, 0] rfl (lX2_joinedRows_18 hr15 ?_)
  refine rn_iload_n (pc := 47) 0 dX2_joinedRows_47 rfl rfl ?_
  cases h5
  exact rn_iret (pc := 48) rfl dX2_joinedRows_48
theorem eX2_joinedRows {l : Launch} {G : Gt} {d : Nat} {t0 : Nat} {p1 : Int32} {u : Mem} {y : Int32 × Mem} (h : fX2_joinedRows t0 p1 u = some y) : Ex l G iX2_joinedRows (d + 4) [rv (some t0), .int p1] u (.returned (some (.int y.1))) y.2 := Ex.of (by decide +kernel) (by decide) (Nat.le_of_ble_eq_true rfl) rfl (tX2_joinedRows h)
theorem btX2_joinedSum_18 {l : Launch} {G : Gt} {d : Nat} {t0 : Nat} {i1 : Int32} {i2 : Option Nat} {s3 : Int32} {s4 : Int32} {u : Mem} {y : (Int32 × Int32 × Mem) ⊕ (Int32 × Mem)} {o : Outcome} {u' : Mem} (h : bX2_joinedSum_18 t0 i1 i2 s3 s4 u = some y) (k0 : ∀ s' : Int32 × Int32 × Mem, y = .inl s' → Rn l G iX2_joinedSum (d + 4) 18 [(0, rv (some t0)), (1, .int i1), (2, rv i2), (3, .int s'.1), (4, .int s'.2.1)] [] s'.2.2 o u') (k1 : ∀ r : Int32 × Mem, y = .inr (r) → Rn l G iX2_joinedSum (d + 4) 64 [(3, .int r.1)] [] r.2 o u') : Rn l G iX2_joinedSum (d + 4) 18 [(0, rv (some t0)), (1, .int i1), (2, rv i2), (3, .int s3), (4, .int s4)] [] u o u' := by
  unfold bX2_joinedSum_18 at h
  refine rn_iload (pc := 18) 4 dX2_joinedSum_18 rfl ?_
  refine rn_aload_n (pc := 20) 2 dX2_joinedSum_20 rfl rfl ?_
  obtain ⟨b5, hb5, h1⟩ := bnd_some h
  obtain ⟨qb5, kb5⟩ := chk_elim hb5
  subst qb5
  obtain ⟨v6, hv6, h2⟩ := bnd_some h1
  refine rn_callV (pc := 21) (n := 0) (As := []) (rest := [.int s4]) (eX5_endOfRows (d := d + 2) hv6) (by omega) okX5 kb5 tw_676 tw_73 tw_832 tw_674 tw_675 (by decide +kernel) rfl (Nat.le_of_ble_eq_true rfl) dX2_joinedSum_21 rfl ?_
  rcases if_elim h2 with ⟨c7, h3⟩ | ⟨c7, h3⟩
  · refine rn_ige_f (pc := 24) 64 dX2_joinedSum_24 (by decide) c7 ?_
    refine rn_aload_n (pc := 27) 0 dX2_joinedSum_27 rfl rfl ?_
    refine rn_iload_n (pc := 28) 1 dX2_joinedSum_28 rfl rfl ?_
    refine rn_iload (pc := 29) 4 dX2_joinedSum_29 rfl ?_
    obtain ⟨b8, hb8, h4⟩ := bnd_some h3
    obtain ⟨qb8, kb8⟩ := chk_elim hb8
    cases qb8
    obtain ⟨v9, u10, hv9, h5⟩ := bnd2_some h4
    refine rn_callV (pc := 31) (n := 2) (As := [.int i1, .int s4]) (rest := []) (eX2_joinedTenth (d := d + 0) hv9) (by omega) okX2 kb8 tw_812 tw_75 tw_833 tw_810 tw_811 (by decide +kernel) rfl (Nat.le_of_ble_eq_true rfl) dX2_joinedSum_31 rfl ?_
    refine rn_istore (pc := 34) (lv' := [(5, .int v9), (0, rv (some t0)), (1, .int i1), (2, rv (some b5)), (3, .int s3), (4, .int s4)]) dX2_joinedSum_34 (by decide) rfl ?_
    refine rn_iload (pc := 36) 0 dX2_joinedSum_36 rfl ?_
    refine rn_iconst (pc := 38) (v := -1) dX2_joinedSum_38 (by decide) ?_
    rcases if_elim h5 with ⟨c11, h6⟩ | ⟨c11, h6⟩
    · refine rn_ieq_t (pc := 39) (tgt := 58) dX2_joinedSum_39 (by decide) c11 ?_
      obtain ⟨x12, ex12, h7⟩ := nm_elim h6
      refine rn_iinc (pc := 58) (v := x12) (lv' := [(4, .int x12), (5, .int v9), (0, rv (some t0)), (1, .int i1), (2, rv (some b5)), (3, .int s3)]) 5 dX2_joinedSum_58 rfl (by rw [ex12]; rfl) (by decide) rfl ?_
      refine rn_goto (pc := 61) (tgt := 18) dX2_joinedSum_61 (by decide) ?_
      cases h7
      exact rn_sub [2, 3, 4, 5, 0] rfl (k0 _ rfl)
    · refine rn_ieq_f (pc := 39) 58 dX2_joinedSum_39 (by decide) c11 ?_
      refine rn_iload_n (pc := 42) 4 dX2_joinedSum_42 rfl rfl ?_
      refine rn_aload_n (pc := 43) 1 dX2_joinedSum_43 rfl rfl ?_
      obtain ⟨v13, hv13, h8⟩ := bnd_some h6
      refine rn_getR (pc := 44) (k := 3) okX2 (by decide) tw_331 rfl dX2_joinedSum_44 hv13 ?_
      refine rn_aload_n (pc := 47) 3 dX2_joinedSum_47 rfl rfl ?_
      obtain ⟨v14, hv14, h9⟩ := bnd_some h8
      refine rn_getI (pc := 48) (k := 2) okX5 (by decide) tw_237 rfl dX2_joinedSum_48 hv14 ?_
      refine rn_iload (pc := 51) 0 dX2_joinedSum_51 rfl ?_
      obtain ⟨b15, hb15, h10⟩ := bnd_some h9
      obtain ⟨qb15, kb15⟩ := chk_elim hb15
      subst qb15
      obtain ⟨v16, hv16, h11⟩ := bnd_some h10
      refine rn_callV (pc := 53) (n := 2) (As := [.int v14, .int v9]) (rest := [.int s3]) (eX7_cost (d := d + 3) hv16) (by omega) okX7 kb15 tw_684 tw_71 tw_804 tw_682 tw_683 (by decide +kernel) rfl (Nat.le_of_ble_eq_true rfl) dX2_joinedSum_53 rfl ?_
      refine rn_iadd (pc := 56) dX2_joinedSum_56 ?_
      obtain ⟨x17, ex17, h12⟩ := nm_elim h11
      refine rn_topi ex17 ?_
      refine rn_istore_n (pc := 57) (lv' := [(3, .int x17), (5, .int v9), (0, rv (some t0)), (1, .int i1), (2, rv (some b5)), (4, .int s4)]) dX2_joinedSum_57 rfl (by decide) rfl ?_
      obtain ⟨x18, ex18, h13⟩ := nm_elim h12
      refine rn_iinc (pc := 58) (v := x18) (lv' := [(4, .int x18), (3, .int x17), (5, .int v9), (0, rv (some t0)), (1, .int i1), (2, rv (some b5))]) 5 dX2_joinedSum_58 rfl (by rw [ex18]; rfl) (by decide) rfl ?_
      refine rn_goto (pc := 61) (tgt := 18) dX2_joinedSum_61 (by decide) ?_
      cases h13
      exact rn_sub [3, 4, 5, 1, 0] rfl (k0 _ rfl)
  · refine rn_ige_t (pc := 24) (tgt := 64) dX2_joinedSum_24 (by decide) c7 ?_
    cases h3
    exact rn_sub [3] rfl (k1 _ rfl)
theorem lX2_joinedSum_18 {l : Launch} {G : Gt} {d : Nat} {t0 : Nat} {i1 : Int32} {i2 : Option Nat} {N : Nat} {s0 : Int32 × Int32 × Mem} {r : Int32 × Mem} {o : Outcome} {u' : Mem} (h : lp (fun s : Int32 × Int32 × Mem => bX2_joinedSum_18 t0 i1 i2 s.1 s.2.1 s.2.2) N s0 = some r) (k1 : Rn l G iX2_joinedSum (d + 4) 64 [(3, .int r.1)] [] r.2 o u') : Rn l G iX2_joinedSum (d + 4) 18 [(0, rv (some t0)), (1, .int i1), (2, rv i2), (3, .int s0.1), (4, .int s0.2.1)] [] s0.2.2 o u' :=
  lp_run (P := fun s : Int32 × Int32 × Mem => Rn l G iX2_joinedSum (d + 4) 18 [(0, rv (some t0)), (1, .int i1), (2, rv i2), (3, .int s.1), (4, .int s.2.1)] [] s.2.2 o u') (E := fun r => Rn l G iX2_joinedSum (d + 4) 64 [(3, .int r.1)] [] r.2 o u') (fun s y hy k0 kE => btX2_joinedSum_18 hy (fun s' e => k0 s' e) (fun r e => kE r e)) N s0 r h k1
theorem tX2_joinedSum {l : Launch} {G : Gt} {d : Nat} {t0 : Nat} {p1 : Int32} {u : Mem} {y : Int32 × Mem} (h : fX2_joinedSum t0 p1 u = some y) : Rn l G iX2_joinedSum (d + 4) 0 [(0, rv (some t0)), (1, .int p1)] [] u (.returned (some (.int y.1))) y.2 := by
  unfold fX2_joinedSum at h
  refine rn_aload_n (pc := 0) 0 dX2_joinedSum_0 rfl rfl ?_
  obtain ⟨v1, hv1, h1⟩ := bnd_some h
  refine rn_getR (pc := 1) (k := 2) okX2 (by decide) tw_330 rfl dX2_joinedSum_1 hv1 ?_
  obtain ⟨v2, hv2, h2⟩ := bnd_some h1
  refine rn_getR (pc := 4) (k := 0) okX0 (by decide) tw_257 rfl dX2_joinedSum_4 hv2 ?_
  refine rn_iload_n (pc := 7) 1 dX2_joinedSum_7 rfl rfl ?_
  obtain ⟨v3, hv3, h3⟩ := bnd_some h2
  refine rn_aald24 (pc := 8) dX2_joinedSum_8 hv3 ?_
  refine rn_astore_n (pc := 9) (lv' := [(2, rv v3), (0, rv (some t0)), (1, .int p1)]) dX2_joinedSum_9 rfl (by decide) rfl ?_
  refine rn_iconst (pc := 10) (v := 0) dX2_joinedSum_10 (by decide) ?_
  refine rn_istore_n (pc := 11) (lv' := [(3, .int (0 : Int32)), (2, rv v3), (0, rv (some t0)), (1, .int p1)]) dX2_joinedSum_11 rfl (by decide) (by generalize v3 = q; cases q <;> rfl) ?_
  refine rn_aload_n (pc := 12) 1 dX2_joinedSum_12 rfl rfl ?_
  obtain ⟨v4, hv4, h4⟩ := bnd_some h3
  refine rn_getI (pc := 13) (k := 0) okX5 (by decide) tw_230 rfl dX2_joinedSum_13 hv4 ?_
  refine rn_istore (pc := 16) (lv' := [(4, .int v4), (3, .int (0 : Int32)), (2, rv v3), (0, rv (some t0)), (1, .int p1)]) dX2_joinedSum_16 (by decide) rfl ?_
  obtain ⟨r19, hr19, h5⟩ := bnd_some h4
  refine rn_sub [3, 4, 2, 1, 0] rfl (lX2_joinedSum_18 hr19 ?_)
  refine rn_iload_n (pc := 64) 0 dX2_joinedSum_64 rfl rfl ?_
  cases h5
  exact rn_iret (pc := 65) rfl dX2_joinedSum_65
theorem eX2_joinedSum {l : Launch} {G : Gt} {d : Nat} {t0 : Nat} {p1 : Int32} {u : Mem} {y : Int32 × Mem} (h : fX2_joinedSum t0 p1 u = some y) : Ex l G iX2_joinedSum (d + 4) [rv (some t0), .int p1] u (.returned (some (.int y.1))) y.2 := Ex.of (by decide +kernel) (by decide) (Nat.le_of_ble_eq_true rfl) rfl (tX2_joinedSum h)
theorem btX2_costOverJoined_19 {l : Launch} {G : Gt} {d : Nat} {t0 : Nat} {i1 : Int32} {i2 : Int32} {i3 : Option Nat} {s4 : Int32} {s5 : Int32} {u : Mem} {y : (Int32 × Int32 × Mem) ⊕ (Int32 × Mem)} {o : Outcome} {u' : Mem} (h : bX2_costOverJoined_19 t0 i1 i2 i3 s4 s5 u = some y) (k0 : ∀ s' : Int32 × Int32 × Mem, y = .inl s' → Rn l G iX2_costOverJoined (d + 4) 19 [(0, rv (some t0)), (1, .int i1), (2, .int i2), (3, rv i3), (4, .int s'.1), (5, .int s'.2.1)] [] s'.2.2 o u') (k1 : ∀ r : Int32 × Mem, y = .inr (r) → Rn l G iX2_costOverJoined (d + 4) 89 [(4, .int r.1)] [] r.2 o u') : Rn l G iX2_costOverJoined (d + 4) 19 [(0, rv (some t0)), (1, .int i1), (2, .int i2), (3, rv i3), (4, .int s4), (5, .int s5)] [] u o u' := by
  unfold bX2_costOverJoined_19 at h
  refine rn_iload (pc := 19) 5 dX2_costOverJoined_19 rfl ?_
  refine rn_aload_n (pc := 21) 3 dX2_costOverJoined_21 rfl rfl ?_
  obtain ⟨b5, hb5, h1⟩ := bnd_some h
  obtain ⟨qb5, kb5⟩ := chk_elim hb5
  subst qb5
  obtain ⟨v6, hv6, h2⟩ := bnd_some h1
  refine rn_callV (pc := 22) (n := 0) (As := []) (rest := [.int s5]) (eX5_endOfRows (d := d + 2) hv6) (by omega) okX5 kb5 tw_676 tw_73 tw_832 tw_674 tw_675 (by decide +kernel) rfl (Nat.le_of_ble_eq_true rfl) dX2_costOverJoined_22 rfl ?_
  rcases if_elim h2 with ⟨c7, h3⟩ | ⟨c7, h3⟩
  · refine rn_ige_f (pc := 25) 89 dX2_costOverJoined_25 (by decide) c7 ?_
    refine rn_aload_n (pc := 28) 0 dX2_costOverJoined_28 rfl rfl ?_
    refine rn_iload_n (pc := 29) 2 dX2_costOverJoined_29 rfl rfl ?_
    refine rn_iload (pc := 30) 5 dX2_costOverJoined_30 rfl ?_
    obtain ⟨b8, hb8, h4⟩ := bnd_some h3
    obtain ⟨qb8, kb8⟩ := chk_elim hb8
    cases qb8
    obtain ⟨v9, u10, hv9, h5⟩ := bnd2_some h4
    refine rn_callV (pc := 32) (n := 2) (As := [.int i2, .int s5]) (rest := []) (eX2_joinedTenth (d := d + 0) hv9) (by omega) okX2 kb8 tw_812 tw_75 tw_833 tw_810 tw_811 (by decide +kernel) rfl (Nat.le_of_ble_eq_true rfl) dX2_costOverJoined_32 rfl ?_
    refine rn_istore (pc := 35) (lv' := [(6, .int v9), (0, rv (some t0)), (1, .int i1), (2, .int i2), (3, rv (some b5)), (4, .int s4), (5, .int s5)]) dX2_costOverJoined_35 (by decide) rfl ?_
    refine rn_aload_n (pc := 37) 1 dX2_costOverJoined_37 rfl rfl ?_
    obtain ⟨v11, hv11, h6⟩ := bnd_some h5
    refine rn_getR (pc := 38) (k := 4) okX2 (by decide) tw_332 rfl dX2_costOverJoined_38 hv11 ?_
    refine rn_iload_n (pc := 41) 2 dX2_costOverJoined_41 rfl rfl ?_
    refine rn_iload_n (pc := 42) 3 dX2_costOverJoined_42 rfl rfl ?_
    refine rn_iload (pc := 43) 6 dX2_costOverJoined_43 rfl ?_
    obtain ⟨b12, hb12, h7⟩ := bnd_some h6
    obtain ⟨qb12, kb12⟩ := chk_elim hb12
    subst qb12
    obtain ⟨v13, hv13, h8⟩ := bnd_some h7
    refine rn_callV (pc := 45) (n := 3) (As := [.int i1, .int i2, .int s5]) (rest := []) (eX1_costOnDay (d := d + 1) hv13) (by omega) okX1 kb12 tw_853 tw_74 tw_850 tw_851 tw_852 (by decide +kernel) rfl (Nat.le_of_ble_eq_true rfl) dX2_costOverJoined_45 rfl ?_
    refine rn_istore (pc := 48) (lv' := [(7, .int v13), (6, .int v9), (0, rv (some t0)), (1, .int i1), (2, .int i2), (3, rv (some b5)), (4, .int s4), (5, .int s5)]) dX2_costOverJoined_48 (by decide) rfl ?_
    refine rn_iload (pc := 50) 1 dX2_costOverJoined_50 rfl ?_
    refine rn_iconst (pc := 52) (v := -1) dX2_costOverJoined_52 (by decide) ?_
    rcases if_elim h8 with ⟨c14, h9⟩ | ⟨c14, h9⟩
    · refine rn_ieq_t (pc := 53) (tgt := 83) dX2_costOverJoined_53 (by decide) c14 ?_
      obtain ⟨x15, ex15, h10⟩ := nm_elim h9
      refine rn_iinc (pc := 83) (v := x15) (lv' := [(5, .int x15), (7, .int v13), (6, .int v9), (0, rv (some t0)), (1, .int i1), (2, .int i2), (3, rv (some b5)), (4, .int s4)]) 7 dX2_costOverJoined_83 rfl (by rw [ex15]; rfl) (by decide) rfl ?_
      refine rn_goto (pc := 86) (tgt := 19) dX2_costOverJoined_86 (by decide) ?_
      cases h10
      exact rn_sub [3, 4, 5, 6, 7, 0] rfl (k0 _ rfl)
    · refine rn_ieq_f (pc := 53) 83 dX2_costOverJoined_53 (by decide) c14 ?_
      refine rn_iload (pc := 56) 0 dX2_costOverJoined_56 rfl ?_
      refine rn_iconst (pc := 58) (v := -1) dX2_costOverJoined_58 (by decide) ?_
      rcases if_elim h9 with ⟨c16, h11⟩ | ⟨c16, h11⟩
      · refine rn_ieq_t (pc := 59) (tgt := 83) dX2_costOverJoined_59 (by decide) c16 ?_
        obtain ⟨x17, ex17, h12⟩ := nm_elim h11
        refine rn_iinc (pc := 83) (v := x17) (lv' := [(5, .int x17), (7, .int v13), (6, .int v9), (0, rv (some t0)), (1, .int i1), (2, .int i2), (3, rv (some b5)), (4, .int s4)]) 7 dX2_costOverJoined_83 rfl (by rw [ex17]; rfl) (by decide) rfl ?_
        refine rn_goto (pc := 86) (tgt := 19) dX2_costOverJoined_86 (by decide) ?_
        cases h12
        exact rn_sub [3, 4, 5, 6, 7, 0] rfl (k0 _ rfl)
      · refine rn_ieq_f (pc := 59) 83 dX2_costOverJoined_59 (by decide) c16 ?_
        refine rn_iload (pc := 62) 6 dX2_costOverJoined_62 rfl ?_
        refine rn_iload (pc := 64) 0 dX2_costOverJoined_64 rfl ?_
        refine rn_aload_n (pc := 66) 2 dX2_costOverJoined_66 rfl rfl ?_
        obtain ⟨v18, hv18, h13⟩ := bnd_some h11
        refine rn_getR (pc := 67) (k := 3) okX2 (by decide) tw_331 rfl dX2_costOverJoined_67 hv18 ?_
        refine rn_aload_n (pc := 70) 5 dX2_costOverJoined_70 rfl rfl ?_
        obtain ⟨v19, hv19, h14⟩ := bnd_some h13
        refine rn_getI (pc := 71) (k := 2) okX5 (by decide) tw_237 rfl dX2_costOverJoined_71 hv19 ?_
        refine rn_iload (pc := 74) 1 dX2_costOverJoined_74 rfl ?_
        obtain ⟨b20, hb20, h15⟩ := bnd_some h14
        obtain ⟨qb20, kb20⟩ := chk_elim hb20
        subst qb20
        obtain ⟨v21, hv21, h16⟩ := bnd_some h15
        refine rn_callV (pc := 76) (n := 2) (As := [.int v19, .int v9]) (rest := [.int v13, .int s4]) (eX7_cost (d := d + 3) hv21) (by omega) okX7 kb20 tw_684 tw_71 tw_804 tw_682 tw_683 (by decide +kernel) rfl (Nat.le_of_ble_eq_true rfl) dX2_costOverJoined_76 rfl ?_
        refine rn_isub (pc := 79) dX2_costOverJoined_79 ?_
        refine rn_iadd (pc := 80) dX2_costOverJoined_80 ?_
        obtain ⟨x22, ex22, h17⟩ := nm_elim h16
        refine rn_topi ex22 ?_
        refine rn_istore (pc := 81) (lv' := [(4, .int x22), (7, .int v13), (6, .int v9), (0, rv (some t0)), (1, .int i1), (2, .int i2), (3, rv (some b5)), (5, .int s5)]) dX2_costOverJoined_81 (by decide) rfl ?_
        obtain ⟨x23, ex23, h18⟩ := nm_elim h17
        refine rn_iinc (pc := 83) (v := x23) (lv' := [(5, .int x23), (4, .int x22), (7, .int v13), (6, .int v9), (0, rv (some t0)), (1, .int i1), (2, .int i2), (3, rv (some b5))]) 7 dX2_costOverJoined_83 rfl (by rw [ex23]; rfl) (by decide) rfl ?_
        refine rn_goto (pc := 86) (tgt := 19) dX2_costOverJoined_86 (by decide) ?_
        cases h18
        exact rn_sub [4, 5, 6, 7, 1, 0] rfl (k0 _ rfl)
  · refine rn_ige_t (pc := 25) (tgt := 89) dX2_costOverJoined_25 (by decide) c7 ?_
    cases h3
    exact rn_sub [4] rfl (k1 _ rfl)
theorem lX2_costOverJoined_19 {l : Launch} {G : Gt} {d : Nat} {t0 : Nat} {i1 : Int32} {i2 : Int32} {i3 : Option Nat} {N : Nat} {s0 : Int32 × Int32 × Mem} {r : Int32 × Mem} {o : Outcome} {u' : Mem} (h : lp (fun s : Int32 × Int32 × Mem => bX2_costOverJoined_19 t0 i1 i2 i3 s.1 s.2.1 s.2.2) N s0 = some r) (k1 : Rn l G iX2_costOverJoined (d + 4) 89 [(4, .int r.1)] [] r.2 o u') : Rn l G iX2_costOverJoined (d + 4) 19 [(0, rv (some t0)), (1, .int i1), (2, .int i2), (3, rv i3), (4, .int s0.1), (5, .int s0.2.1)] [] s0.2.2 o u' :=
  lp_run (P := fun s : Int32 × Int32 × Mem => Rn l G iX2_costOverJoined (d + 4) 19 [(0, rv (some t0)), (1, .int i1), (2, .int i2), (3, rv i3), (4, .int s.1), (5, .int s.2.1)] [] s.2.2 o u') (E := fun r => Rn l G iX2_costOverJoined (d + 4) 89 [(4, .int r.1)] [] r.2 o u') (fun s y hy k0 kE => btX2_costOverJoined_19 hy (fun s' e => k0 s' e) (fun r e => kE r e)) N s0 r h k1
theorem tX2_costOverJoined {l : Launch} {G : Gt} {d : Nat} {t0 : Nat} {p1 : Int32} {p2 : Int32} {u : Mem} {y : Int32 × Mem} (h : fX2_costOverJoined t0 p1 p2 u = some y) : Rn l G iX2_costOverJoined (d + 4) 0 [(0, rv (some t0)), (1, .int p1), (2, .int p2)] [] u (.returned (some (.int y.1))) y.2 := by
  unfold fX2_costOverJoined at h
  refine rn_aload_n (pc := 0) 0 dX2_costOverJoined_0 rfl rfl ?_
  obtain ⟨v1, hv1, h1⟩ := bnd_some h
  refine rn_getR (pc := 1) (k := 2) okX2 (by decide) tw_330 rfl dX2_costOverJoined_1 hv1 ?_
  obtain ⟨v2, hv2, h2⟩ := bnd_some h1
  refine rn_getR (pc := 4) (k := 0) okX0 (by decide) tw_257 rfl dX2_costOverJoined_4 hv2 ?_
  refine rn_iload_n (pc := 7) 2 dX2_costOverJoined_7 rfl rfl ?_
  obtain ⟨v3, hv3, h3⟩ := bnd_some h2
  refine rn_aald24 (pc := 8) dX2_costOverJoined_8 hv3 ?_
  refine rn_astore_n (pc := 9) (lv' := [(3, rv v3), (0, rv (some t0)), (1, .int p1), (2, .int p2)]) dX2_costOverJoined_9 rfl (by decide) rfl ?_
  refine rn_iconst (pc := 10) (v := 0) dX2_costOverJoined_10 (by decide) ?_
  refine rn_istore (pc := 11) (lv' := [(4, .int (0 : Int32)), (3, rv v3), (0, rv (some t0)), (1, .int p1), (2, .int p2)]) dX2_costOverJoined_11 (by decide) (by generalize v3 = q; cases q <;> rfl) ?_
  refine rn_aload_n (pc := 13) 1 dX2_costOverJoined_13 rfl rfl ?_
  obtain ⟨v4, hv4, h4⟩ := bnd_some h3
  refine rn_getI (pc := 14) (k := 0) okX5 (by decide) tw_230 rfl dX2_costOverJoined_14 hv4 ?_
  refine rn_istore (pc := 17) (lv' := [(5, .int v4), (4, .int (0 : Int32)), (3, rv v3), (0, rv (some t0)), (1, .int p1), (2, .int p2)]) dX2_costOverJoined_17 (by decide) rfl ?_
  obtain ⟨r24, hr24, h5⟩ := bnd_some h4
  refine rn_sub [3, 4, 5, 2, 1, 0] rfl (lX2_costOverJoined_19 hr24 ?_)
  refine rn_iload (pc := 89) 0 dX2_costOverJoined_89 rfl ?_
  cases h5
  exact rn_iret (pc := 91) rfl dX2_costOverJoined_91
theorem eX2_costOverJoined {l : Launch} {G : Gt} {d : Nat} {t0 : Nat} {p1 : Int32} {p2 : Int32} {u : Mem} {y : Int32 × Mem} (h : fX2_costOverJoined t0 p1 p2 u = some y) : Ex l G iX2_costOverJoined (d + 4) [rv (some t0), .int p1, .int p2] u (.returned (some (.int y.1))) y.2 := Ex.of (by decide +kernel) (by decide) (Nat.le_of_ble_eq_true rfl) rfl (tX2_costOverJoined h)
theorem jtX2_compareWithJoined_12_59 {l : Launch} {G : Gt} {d : Nat} {t0 : Nat} {i1 : Int32} {p2 : Int32} {p3 : Int32} {w0 : Int32} {w1 : Int32} {w2 : Nat} {u : Mem}  {y : (Int32 × Mem) ⊕ (Mem)} {o : Outcome} {u' : Mem} (h : jX2_compareWithJoined_12_59 t0 i1 p2 p3 w0 w1 w2 u = some y) (k0 : ∀ s' : Int32 × Mem, y = .inl s' → Rn l G iX2_compareWithJoined (d + 5) 12 [(0, rv (some t0)), (1, .int i1), (2, .int s'.1)] [] s'.2 o u') (k1 : ∀ r : Mem, y = .inr (r) → Rn l G iX2_compareWithJoined (d + 5) 87 [] [] r o u') : Rn l G iX2_compareWithJoined (d + 5) 59 [(0, rv (some t0)), (1, .int i1), (2, .int p2), (3, .int p3)] [.int w0, .int w1, rv (some w2)] u o u' := by
  unfold jX2_compareWithJoined_12_59 at h
  refine rn_iadd (pc := 59) dX2_compareWithJoined_59 ?_
  obtain ⟨u17, hu17, h1⟩ := bnd_some h
  refine rn_putI (pc := 60) (k := 0) okX2 (by decide) tw_326 (Or.inl rfl) (Or.inl rfl) dX2_compareWithJoined_60 hu17 ?_
  refine rn_aload_n (pc := 63) 0 dX2_compareWithJoined_63 rfl rfl ?_
  refine rn_dup (pc := 64) dX2_compareWithJoined_64 (rv_cat _) ?_
  obtain ⟨v18, hv18, h2⟩ := bnd_some h1
  refine rn_getI (pc := 65) (k := 1) okX2 (by decide) tw_328 rfl dX2_compareWithJoined_65 hv18 ?_
  refine rn_iload_n (pc := 68) 3 dX2_compareWithJoined_68 rfl rfl ?_
  rcases if_elim h2 with ⟨c19, h3⟩ | ⟨c19, h3⟩
  · refine rn_zge_f (pc := 69) 76 dX2_compareWithJoined_69 (by decide) c19 ?_
    refine rn_iconst (pc := 72) (v := 1) dX2_compareWithJoined_72 (by decide) ?_
    refine rn_goto (pc := 73) (tgt := 77) dX2_compareWithJoined_73 (by decide) ?_
    refine rn_iadd (pc := 77) dX2_compareWithJoined_77 ?_
    obtain ⟨u20, hu20, h4⟩ := bnd_some h3
    refine rn_putI (pc := 78) (k := 1) okX2 (by decide) tw_328 (Or.inl rfl) (Or.inl rfl) dX2_compareWithJoined_78 hu20 ?_
    obtain ⟨x21, ex21, h5⟩ := nm_elim h4
    refine rn_iinc (pc := 81) (v := x21) (lv' := [(2, .int x21), (0, rv (some t0)), (1, .int i1), (3, .int p3)]) 2 dX2_compareWithJoined_81 rfl (by rw [ex21]; rfl) (by decide) rfl ?_
    refine rn_goto (pc := 84) (tgt := 12) dX2_compareWithJoined_84 (by decide) ?_
    cases h5
    exact rn_sub [1, 2, 0] rfl (k0 _ rfl)
  · refine rn_zge_t (pc := 69) (tgt := 76) dX2_compareWithJoined_69 (by decide) c19 ?_
    refine rn_iconst (pc := 76) (v := 0) dX2_compareWithJoined_76 (by decide) ?_
    refine rn_iadd (pc := 77) dX2_compareWithJoined_77 ?_
    obtain ⟨u22, hu22, h6⟩ := bnd_some h3
    refine rn_putI (pc := 78) (k := 1) okX2 (by decide) tw_328 (Or.inl rfl) (Or.inl rfl) dX2_compareWithJoined_78 hu22 ?_
    obtain ⟨x23, ex23, h7⟩ := nm_elim h6
    refine rn_iinc (pc := 81) (v := x23) (lv' := [(2, .int x23), (0, rv (some t0)), (1, .int i1), (3, .int p3)]) 2 dX2_compareWithJoined_81 rfl (by rw [ex23]; rfl) (by decide) rfl ?_
    refine rn_goto (pc := 84) (tgt := 12) dX2_compareWithJoined_84 (by decide) ?_
    cases h7
    exact rn_sub [1, 2, 0] rfl (k0 _ rfl)
theorem btX2_compareWithJoined_12 {l : Launch} {G : Gt} {d : Nat} {t0 : Nat} {i1 : Int32} {s2 : Int32} {u : Mem} {y : (Int32 × Mem) ⊕ (Mem)} {o : Outcome} {u' : Mem} (h : bX2_compareWithJoined_12 t0 i1 s2 u = some y) (k0 : ∀ s' : Int32 × Mem, y = .inl s' → Rn l G iX2_compareWithJoined (d + 5) 12 [(0, rv (some t0)), (1, .int i1), (2, .int s'.1)] [] s'.2 o u') (k1 : ∀ r : Mem, y = .inr (r) → Rn l G iX2_compareWithJoined (d + 5) 87 [] [] r o u') : Rn l G iX2_compareWithJoined (d + 5) 12 [(0, rv (some t0)), (1, .int i1), (2, .int s2)] [] u o u' := by
  unfold bX2_compareWithJoined_12 at h
  refine rn_iload_n (pc := 12) 2 dX2_compareWithJoined_12 rfl rfl ?_
  refine rn_aload_n (pc := 13) 0 dX2_compareWithJoined_13 rfl rfl ?_
  obtain ⟨v3, hv3, h1⟩ := bnd_some h
  refine rn_getR (pc := 14) (k := 2) okX2 (by decide) tw_330 rfl dX2_compareWithJoined_14 hv3 ?_
  obtain ⟨v4, hv4, h2⟩ := bnd_some h1
  refine rn_getI (pc := 17) (k := 3) okX0 (by decide) tw_266 rfl dX2_compareWithJoined_17 hv4 ?_
  rcases if_elim h2 with ⟨c5, h3⟩ | ⟨c5, h3⟩
  · refine rn_ige_f (pc := 20) 87 dX2_compareWithJoined_20 (by decide) c5 ?_
    refine rn_aload_n (pc := 23) 0 dX2_compareWithJoined_23 rfl rfl ?_
    obtain ⟨v6, hv6, h4⟩ := bnd_some h3
    refine rn_getR (pc := 24) (k := 4) okX2 (by decide) tw_332 rfl dX2_compareWithJoined_24 hv6 ?_
    refine rn_iload_n (pc := 27) 1 dX2_compareWithJoined_27 rfl rfl ?_
    refine rn_iload_n (pc := 28) 2 dX2_compareWithJoined_28 rfl rfl ?_
    obtain ⟨v7, hv7, h5⟩ := bnd_some h4
    refine rn_callSN (pc := 29) (host := "ForeBook") (n := 2) (As := [.int i1, .int s2]) (rest := [rv v6]) (eX10_cell (d := d + 4) hv7) (by omega) tw_604 tw_68 (by decide +kernel) tw_603 (by decide +kernel) rfl (cat_le8 (Nat.le_of_ble_eq_true rfl)) dX2_compareWithJoined_29 rfl ?_
    obtain ⟨b8, hb8, h6⟩ := bnd_some h5
    obtain ⟨qb8, kb8⟩ := chk_elim hb8
    subst qb8
    obtain ⟨v9, hv9, h7⟩ := bnd_some h6
    refine rn_callV (pc := 32) (n := 1) (As := [.int v7]) (rest := []) (eX1_doesCount (d := d + 4) hv9) (by omega) okX1 kb8 tw_698 tw_74 tw_803 tw_696 tw_697 (by decide +kernel) rfl (Nat.le_of_ble_eq_true rfl) dX2_compareWithJoined_32 rfl ?_
    rcases if_elim h7 with ⟨c10, h8⟩ | ⟨c10, h8⟩
    · refine rn_zeq_t (pc := 35) (tgt := 81) dX2_compareWithJoined_35 (by decide) c10 ?_
      obtain ⟨x11, ex11, h9⟩ := nm_elim h8
      refine rn_iinc (pc := 81) (v := x11) (lv' := [(2, .int x11), (0, rv (some t0)), (1, .int i1)]) 2 dX2_compareWithJoined_81 rfl (by rw [ex11]; rfl) (by decide) rfl ?_
      refine rn_goto (pc := 84) (tgt := 12) dX2_compareWithJoined_84 (by decide) ?_
      cases h9
      exact rn_sub [1, 2, 0] rfl (k0 _ rfl)
    · refine rn_zeq_f (pc := 35) 81 dX2_compareWithJoined_35 (by decide) c10 ?_
      refine rn_aload_n (pc := 38) 0 dX2_compareWithJoined_38 rfl rfl ?_
      refine rn_iload_n (pc := 39) 1 dX2_compareWithJoined_39 rfl rfl ?_
      refine rn_iload_n (pc := 40) 2 dX2_compareWithJoined_40 rfl rfl ?_
      obtain ⟨b12, hb12, h10⟩ := bnd_some h8
      obtain ⟨qb12, kb12⟩ := chk_elim hb12
      cases qb12
      obtain ⟨v13, u14, hv13, h11⟩ := bnd2_some h10
      refine rn_callV (pc := 41) (n := 2) (As := [.int i1, .int s2]) (rest := []) (eX2_costOverJoined (d := d + 0) hv13) (by omega) okX2 kb12 tw_849 tw_75 tw_847 tw_848 tw_25 (by decide +kernel) rfl (Nat.le_of_ble_eq_true rfl) dX2_compareWithJoined_41 rfl ?_
      refine rn_istore_n (pc := 44) (lv' := [(3, .int v13), (0, rv (some t0)), (1, .int i1), (2, .int s2)]) dX2_compareWithJoined_44 rfl (by decide) rfl ?_
      refine rn_aload_n (pc := 45) 1 dX2_compareWithJoined_45 rfl rfl ?_
      refine rn_dup (pc := 46) dX2_compareWithJoined_46 (rv_cat _) ?_
      obtain ⟨v15, hv15, h12⟩ := bnd_some h11
      refine rn_getI (pc := 47) (k := 0) okX2 (by decide) tw_326 rfl dX2_compareWithJoined_47 hv15 ?_
      refine rn_iload_n (pc := 50) 0 dX2_compareWithJoined_50 rfl rfl ?_
      rcases if_elim h12 with ⟨c16, h13⟩ | ⟨c16, h13⟩
      · refine rn_zeq_t (pc := 51) (tgt := 58) dX2_compareWithJoined_51 (by decide) c16 ?_
        refine rn_iconst (pc := 58) (v := 0) dX2_compareWithJoined_58 (by decide) ?_
        exact rn_sub [1, 2, 3, 0] rfl (jtX2_compareWithJoined_12_59 h13 k0 k1)
      · refine rn_zeq_f (pc := 51) 58 dX2_compareWithJoined_51 (by decide) c16 ?_
        refine rn_iconst (pc := 54) (v := 1) dX2_compareWithJoined_54 (by decide) ?_
        refine rn_goto (pc := 55) (tgt := 59) dX2_compareWithJoined_55 (by decide) ?_
        exact rn_sub [1, 2, 3, 0] rfl (jtX2_compareWithJoined_12_59 h13 k0 k1)
  · refine rn_ige_t (pc := 20) (tgt := 87) dX2_compareWithJoined_20 (by decide) c5 ?_
    cases h3
    exact rn_sub [] rfl (k1 _ rfl)
theorem lX2_compareWithJoined_12 {l : Launch} {G : Gt} {d : Nat} {t0 : Nat} {i1 : Int32} {N : Nat} {s0 : Int32 × Mem} {r : Mem} {o : Outcome} {u' : Mem} (h : lp (fun s : Int32 × Mem => bX2_compareWithJoined_12 t0 i1 s.1 s.2) N s0 = some r) (k1 : Rn l G iX2_compareWithJoined (d + 5) 87 [] [] r o u') : Rn l G iX2_compareWithJoined (d + 5) 12 [(0, rv (some t0)), (1, .int i1), (2, .int s0.1)] [] s0.2 o u' :=
  lp_run (P := fun s : Int32 × Mem => Rn l G iX2_compareWithJoined (d + 5) 12 [(0, rv (some t0)), (1, .int i1), (2, .int s.1)] [] s.2 o u') (E := fun r => Rn l G iX2_compareWithJoined (d + 5) 87 [] [] r o u') (fun s y hy k0 kE => btX2_compareWithJoined_12 hy (fun s' e => k0 s' e) (fun r e => kE r e)) N s0 r h k1
theorem tX2_compareWithJoined {l : Launch} {G : Gt} {d : Nat} {t0 : Nat} {p1 : Int32} {u : Mem} {y : Mem} (h : fX2_compareWithJoined t0 p1 u = some y) : Rn l G iX2_compareWithJoined (d + 5) 0 [(0, rv (some t0)), (1, .int p1)] [] u (.returned none) y := by
  unfold fX2_compareWithJoined at h
  refine rn_aload_n (pc := 0) 0 dX2_compareWithJoined_0 rfl rfl ?_
  refine rn_iconst (pc := 1) (v := 0) dX2_compareWithJoined_1 (by decide) ?_
  obtain ⟨u1, hu1, h1⟩ := bnd_some h
  refine rn_putI (pc := 2) (k := 0) okX2 (by decide) tw_326 (Or.inl rfl) (Or.inl rfl) dX2_compareWithJoined_2 hu1 ?_
  refine rn_aload_n (pc := 5) 0 dX2_compareWithJoined_5 rfl rfl ?_
  refine rn_iconst (pc := 6) (v := 0) dX2_compareWithJoined_6 (by decide) ?_
  obtain ⟨u2, hu2, h2⟩ := bnd_some h1
  refine rn_putI (pc := 7) (k := 1) okX2 (by decide) tw_328 (Or.inl rfl) (Or.inl rfl) dX2_compareWithJoined_7 hu2 ?_
  refine rn_iconst (pc := 10) (v := 0) dX2_compareWithJoined_10 (by decide) ?_
  refine rn_istore_n (pc := 11) (lv' := [(2, .int (0 : Int32)), (0, rv (some t0)), (1, .int p1)]) dX2_compareWithJoined_11 rfl (by decide) rfl ?_
  obtain ⟨r24, hr24, h3⟩ := bnd_some h2
  refine rn_sub [1, 2, 0] rfl (lX2_compareWithJoined_12 hr24 ?_)
  cases h3
  exact rn_vret (pc := 87) rfl dX2_compareWithJoined_87
theorem eX2_compareWithJoined {l : Launch} {G : Gt} {d : Nat} {t0 : Nat} {p1 : Int32} {u : Mem} {y : Mem} (h : fX2_compareWithJoined t0 p1 u = some y) : Ex l G iX2_compareWithJoined (d + 5) [rv (some t0), .int p1] u (.returned none) y := Ex.of (by decide +kernel) (by decide) (Nat.le_of_ble_eq_true rfl) rfl (tX2_compareWithJoined h)
theorem jtX2_rowsWithHeads_8_26 {l : Launch} {G : Gt} {d : Nat} {i0 : Int32} {i1 : Int32} {p2 : Int64} {p4 : Int64} {p6 : Int32} {u : Mem}  {y : (Int64 × Int64 × Int32) ⊕ (Int64)} {o : Outcome} {u' : Mem} (h : jX2_rowsWithHeads_8_26 i0 i1 p2 p4 p6 u = some y) (k0 : ∀ s' : Int64 × Int64 × Int32, y = .inl s' → Rn l G iX2_rowsWithHeads d 8 [(0, .int i0), (1, .int i1), (2, .long s'.1), (4, .long s'.2.1), (6, .int s'.2.2)] [] u o u') (k1 : ∀ r : Int64, y = .inr (r) → Rn l G iX2_rowsWithHeads d 46 [(4, .long r)] [] u o u') : Rn l G iX2_rowsWithHeads d 26 [(0, .int i0), (1, .int i1), (2, .long p2), (4, .long p4), (6, .int p6)] [] u o u' := by
  unfold jX2_rowsWithHeads_8_26 at h
  refine rn_lload_n (pc := 26) 2 dX2_rowsWithHeads_26 rfl rfl ?_
  refine rn_iload_n (pc := 27) 0 dX2_rowsWithHeads_27 rfl rfl ?_
  refine rn_iload (pc := 28) 4 dX2_rowsWithHeads_28 rfl ?_
  refine rn_isub (pc := 30) dX2_rowsWithHeads_30 ?_
  refine rn_i2l (pc := 31) dX2_rowsWithHeads_31 ?_
  refine rn_lmul (pc := 32) dX2_rowsWithHeads_32 ?_
  refine rn_iload (pc := 33) 4 dX2_rowsWithHeads_33 rfl ?_
  refine rn_iconst (pc := 35) (v := 1) dX2_rowsWithHeads_35 (by decide) ?_
  refine rn_iadd (pc := 36) dX2_rowsWithHeads_36 ?_
  refine rn_i2l (pc := 37) dX2_rowsWithHeads_37 ?_
  obtain ⟨z3, hz3, h1⟩ := bnd_some h
  have hz3 := (nz64_elim hz3).2
  refine rn_ldiv (pc := 38) dX2_rowsWithHeads_38 hz3 ?_
  obtain ⟨x4, ex4, h2⟩ := nm_elim h1
  refine rn_topl ex4 ?_
  refine rn_lstore_n (pc := 39) (lv' := [(2, .long x4), (0, .int i0), (1, .int i1), (4, .long p4), (6, .int p6)]) dX2_rowsWithHeads_39 rfl (by decide) rfl ?_
  obtain ⟨x5, ex5, h3⟩ := nm_elim h2
  refine rn_iinc (pc := 40) (v := x5) (lv' := [(6, .int x5), (2, .long x4), (0, .int i0), (1, .int i1), (4, .long p4)]) 4 dX2_rowsWithHeads_40 rfl (by rw [ex5]; rfl) (by decide) rfl ?_
  refine rn_goto (pc := 43) (tgt := 8) dX2_rowsWithHeads_43 (by decide) ?_
  cases h3
  exact rn_sub [2, 3, 1, 4, 0] rfl (k0 _ rfl)
theorem btX2_rowsWithHeads_8 {l : Launch} {G : Gt} {d : Nat} {i0 : Int32} {i1 : Int32} {u : Mem} {s2 : Int64} {s4 : Int64} {s6 : Int32} {y : (Int64 × Int64 × Int32) ⊕ (Int64)} {o : Outcome} {u' : Mem} (h : bX2_rowsWithHeads_8 i0 i1 u s2 s4 s6 = some y) (k0 : ∀ s' : Int64 × Int64 × Int32, y = .inl s' → Rn l G iX2_rowsWithHeads d 8 [(0, .int i0), (1, .int i1), (2, .long s'.1), (4, .long s'.2.1), (6, .int s'.2.2)] [] u o u') (k1 : ∀ r : Int64, y = .inr (r) → Rn l G iX2_rowsWithHeads d 46 [(4, .long r)] [] u o u') : Rn l G iX2_rowsWithHeads d 8 [(0, .int i0), (1, .int i1), (2, .long s2), (4, .long s4), (6, .int s6)] [] u o u' := by
  unfold bX2_rowsWithHeads_8 at h
  refine rn_iload (pc := 8) 4 dX2_rowsWithHeads_8 rfl ?_
  refine rn_iload_n (pc := 10) 0 dX2_rowsWithHeads_10 rfl rfl ?_
  rcases if_elim h with ⟨c1, h1⟩ | ⟨c1, h1⟩
  · refine rn_igt_t (pc := 11) (tgt := 46) dX2_rowsWithHeads_11 (by decide) c1 ?_
    cases h1
    exact rn_sub [3] rfl (k1 _ rfl)
  · refine rn_igt_f (pc := 11) 46 dX2_rowsWithHeads_11 (by decide) c1 ?_
    refine rn_iload (pc := 14) 4 dX2_rowsWithHeads_14 rfl ?_
    refine rn_iload_n (pc := 16) 1 dX2_rowsWithHeads_16 rfl rfl ?_
    rcases if_elim h1 with ⟨c2, h2⟩ | ⟨c2, h2⟩
    · refine rn_ilt_t (pc := 17) (tgt := 26) dX2_rowsWithHeads_17 (by decide) c2 ?_
      exact rn_sub [0, 1, 2, 3, 4] rfl (jtX2_rowsWithHeads_8_26 h2 k0 k1)
    · refine rn_ilt_f (pc := 17) 26 dX2_rowsWithHeads_17 (by decide) c2 ?_
      refine rn_lload (pc := 20) 3 dX2_rowsWithHeads_20 rfl ?_
      refine rn_lload_n (pc := 22) 2 dX2_rowsWithHeads_22 rfl rfl ?_
      refine rn_ladd (pc := 23) dX2_rowsWithHeads_23 ?_
      obtain ⟨x6, ex6, h3⟩ := nm_elim h2
      refine rn_topl ex6 ?_
      refine rn_lstore (pc := 24) (lv' := [(4, .long x6), (0, .int i0), (1, .int i1), (2, .long s2), (6, .int s6)]) dX2_rowsWithHeads_24 (by decide) rfl ?_
      exact rn_sub [1, 2, 3, 0, 4] rfl (jtX2_rowsWithHeads_8_26 h3 k0 k1)
theorem lX2_rowsWithHeads_8 {l : Launch} {G : Gt} {d : Nat} {i0 : Int32} {i1 : Int32} {u : Mem} {N : Nat} {s0 : Int64 × Int64 × Int32} {r : Int64} {o : Outcome} {u' : Mem} (h : lp (fun s : Int64 × Int64 × Int32 => bX2_rowsWithHeads_8 i0 i1 u s.1 s.2.1 s.2.2) N s0 = some r) (k1 : Rn l G iX2_rowsWithHeads d 46 [(4, .long r)] [] u o u') : Rn l G iX2_rowsWithHeads d 8 [(0, .int i0), (1, .int i1), (2, .long s0.1), (4, .long s0.2.1), (6, .int s0.2.2)] [] u o u' :=
  lp_run (P := fun s : Int64 × Int64 × Int32 => Rn l G iX2_rowsWithHeads d 8 [(0, .int i0), (1, .int i1), (2, .long s.1), (4, .long s.2.1), (6, .int s.2.2)] [] u o u') (E := fun r => Rn l G iX2_rowsWithHeads d 46 [(4, .long r)] [] u o u') (fun s y hy k0 kE => btX2_rowsWithHeads_8 hy (fun s' e => k0 s' e) (fun r e => kE r e)) N s0 r h k1
theorem tX2_rowsWithHeads {l : Launch} {G : Gt} {d : Nat} {p0 : Int32} {p1 : Int32} {u : Mem} {y : Int64} (h : fX2_rowsWithHeads p0 p1 u = some y) : Rn l G iX2_rowsWithHeads d 0 [(0, .int p0), (1, .int p1)] [] u (.returned (some (.long y))) u := by
  unfold fX2_rowsWithHeads at h
  refine rn_lconst (pc := 0) (v := 1) dX2_rowsWithHeads_0 (by decide) ?_
  refine rn_lstore_n (pc := 1) (lv' := [(2, .long (1 : Int64)), (0, .int p0), (1, .int p1)]) dX2_rowsWithHeads_1 rfl (by decide) rfl ?_
  refine rn_lconst (pc := 2) (v := 0) dX2_rowsWithHeads_2 (by decide) ?_
  refine rn_lstore (pc := 3) (lv' := [(4, .long (0 : Int64)), (2, .long (1 : Int64)), (0, .int p0), (1, .int p1)]) dX2_rowsWithHeads_3 (by decide) rfl ?_
  refine rn_iconst (pc := 5) (v := 0) dX2_rowsWithHeads_5 (by decide) ?_
  refine rn_istore (pc := 6) (lv' := [(6, .int (0 : Int32)), (4, .long (0 : Int64)), (2, .long (1 : Int64)), (0, .int p0), (1, .int p1)]) dX2_rowsWithHeads_6 (by decide) rfl ?_
  obtain ⟨r7, hr7, h1⟩ := bnd_some h
  refine rn_sub [3, 4, 2, 1, 0] rfl (lX2_rowsWithHeads_8 hr7 ?_)
  refine rn_lload (pc := 46) 0 dX2_rowsWithHeads_46 rfl ?_
  cases h1
  exact rn_lret (pc := 48) rfl dX2_rowsWithHeads_48
theorem eX2_rowsWithHeads {l : Launch} {G : Gt} {d : Nat} {p0 : Int32} {p1 : Int32} {u : Mem} {y : Int64} (h : fX2_rowsWithHeads p0 p1 u = some y) : Ex l G iX2_rowsWithHeads d [.int p0, .int p1] u (.returned (some (.long y))) u := Ex.of (by decide +kernel) (by decide) (Nat.le_of_ble_eq_true rfl) rfl (tX2_rowsWithHeads h)
theorem tX4_init {l : Launch} {G : Gt} {d : Nat} {t0 : Nat} {p1 : Option Nat} {p2 : Option Nat} {u : Mem} {y : Mem} (h : fX4_init t0 p1 p2 u = some y) : Rn l G iX4_init (d + 1) 0 [(0, rv (some t0)), (1, rv p1), (2, rv p2)] [] u (.returned none) y := by
  unfold fX4_init at h
  refine rn_aload_n (pc := 0) 0 dX4_init_0 rfl rfl ?_
  refine rn_objInit (pc := 1) (by omega) tw_394 tw_97 tw_98 (by decide) dX4_init_1 ?_
  refine rn_aload_n (pc := 4) 0 dX4_init_4 rfl rfl ?_
  refine rn_bipush (pc := 5) (v := 20) dX4_init_5 (by decide) ?_
  obtain ⟨a1, u2, ha1, h1⟩ := bnd2_some h
  refine rn_newa (pc := 7) (N := 20) (atype := .int) (by decide) rfl tw_172 (by decide) (by decide) (by decide) dX4_init_7 ha1 ?_
  obtain ⟨u3, hu3, h2⟩ := bnd_some h1
  refine rn_putR (pc := 9) (k := 0) okX4 (by decide) tw_398 (Or.inr ⟨rfl, rfl, rfl⟩) rfl dX4_init_9 hu3 ?_
  refine rn_aload_n (pc := 12) 0 dX4_init_12 rfl rfl ?_
  refine rn_iconst (pc := 13) (v := 4) dX4_init_13 (by decide) ?_
  obtain ⟨a4, u5, ha4, h3⟩ := bnd2_some h2
  refine rn_newa (pc := 14) (N := 4) (atype := .int) (by decide) rfl tw_172 (by decide) (by decide) (by decide) dX4_init_14 ha4 ?_
  obtain ⟨u6, hu6, h4⟩ := bnd_some h3
  refine rn_putR (pc := 16) (k := 3) okX4 (by decide) tw_402 (Or.inr ⟨rfl, rfl, rfl⟩) rfl dX4_init_16 hu6 ?_
  refine rn_aload_n (pc := 19) 0 dX4_init_19 rfl rfl ?_
  refine rn_iconst (pc := 20) (v := 4) dX4_init_20 (by decide) ?_
  obtain ⟨a7, u8, ha7, h5⟩ := bnd2_some h4
  refine rn_newa (pc := 21) (N := 4) (atype := .int) (by decide) rfl tw_172 (by decide) (by decide) (by decide) dX4_init_21 ha7 ?_
  obtain ⟨u9, hu9, h6⟩ := bnd_some h5
  refine rn_putR (pc := 23) (k := 4) okX4 (by decide) tw_403 (Or.inr ⟨rfl, rfl, rfl⟩) rfl dX4_init_23 hu9 ?_
  refine rn_aload_n (pc := 26) 0 dX4_init_26 rfl rfl ?_
  refine rn_iconst (pc := 27) (v := 4) dX4_init_27 (by decide) ?_
  obtain ⟨a10, u11, ha10, h7⟩ := bnd2_some h6
  refine rn_newa (pc := 28) (N := 4) (atype := .int) (by decide) rfl tw_172 (by decide) (by decide) (by decide) dX4_init_28 ha10 ?_
  obtain ⟨u12, hu12, h8⟩ := bnd_some h7
  refine rn_putR (pc := 30) (k := 5) okX4 (by decide) tw_404 (Or.inr ⟨rfl, rfl, rfl⟩) rfl dX4_init_30 hu12 ?_
  refine rn_aload_n (pc := 33) 0 dX4_init_33 rfl rfl ?_
  refine rn_iconst (pc := 34) (v := 4) dX4_init_34 (by decide) ?_
  obtain ⟨a13, u14, ha13, h9⟩ := bnd2_some h8
  refine rn_newa (pc := 35) (N := 4) (atype := .int) (by decide) rfl tw_172 (by decide) (by decide) (by decide) dX4_init_35 ha13 ?_
  obtain ⟨u15, hu15, h10⟩ := bnd_some h9
  refine rn_putR (pc := 37) (k := 6) okX4 (by decide) tw_405 (Or.inr ⟨rfl, rfl, rfl⟩) rfl dX4_init_37 hu15 ?_
  refine rn_aload_n (pc := 40) 0 dX4_init_40 rfl rfl ?_
  refine rn_aload_n (pc := 41) 1 dX4_init_41 rfl rfl ?_
  obtain ⟨u16, hu16, h11⟩ := bnd_some h10
  refine rn_putR (pc := 42) (k := 1) okX4 (by decide) tw_400 (Or.inr ⟨rfl, rfl, rfl⟩) rfl dX4_init_42 hu16 ?_
  refine rn_aload_n (pc := 45) 0 dX4_init_45 rfl rfl ?_
  refine rn_aload_n (pc := 46) 2 dX4_init_46 rfl rfl ?_
  obtain ⟨u17, hu17, h12⟩ := bnd_some h11
  refine rn_putR (pc := 47) (k := 2) okX4 (by decide) tw_401 (Or.inr ⟨rfl, rfl, rfl⟩) rfl dX4_init_47 hu17 ?_
  refine rn_aload_n (pc := 50) 0 dX4_init_50 rfl rfl ?_
  obtain ⟨v18, hv18, h13⟩ := bnd_some h12
  refine rn_getR (pc := 51) (k := 0) okX4 (by decide) tw_398 rfl dX4_init_51 hv18 ?_
  refine rn_iconst (pc := 54) (v := -1) dX4_init_54 (by decide) ?_
  obtain ⟨u19, hu19, h14⟩ := bnd_some h13
  refine rn_callS (pc := 55) (n := 2) (As := [rv v18, .int (-1 : Int32)]) (rest := []) (eJ7_fill_53178 (d := d + 0) hu19) (by omega) tw_397 tw_78 tw_395 tw_396 (by decide +kernel) rfl (Nat.le_of_ble_eq_true rfl) dX4_init_55 rfl ?_
  cases h14
  exact rn_vret (pc := 58) rfl dX4_init_58
theorem eX4_init {l : Launch} {G : Gt} {d : Nat} {t0 : Nat} {p1 : Option Nat} {p2 : Option Nat} {u : Mem} {y : Mem} (h : fX4_init t0 p1 p2 u = some y) : Ex l G iX4_init (d + 1) [rv (some t0), rv p1, rv p2] u (.returned none) y := Ex.of (by decide +kernel) (by decide) (by cases p1 <;> cases p2 <;> exact Nat.le_of_ble_eq_true rfl) (by cases p1 <;> cases p2 <;> rfl) (tX4_init h)
theorem btX4_choose_8 {l : Launch} {G : Gt} {d : Nat} {t0 : Nat} {i1 : Int32} {i2 : Int32} {i3 : Int32} {s4 : Int32} {u : Mem} {y : (Int32 × Mem) ⊕ ((Mem) ⊕ (Mem))} {o : Outcome} {u' : Mem} (h : bX4_choose_8 t0 i1 i2 i3 s4 u = some y) (k0 : ∀ s' : Int32 × Mem, y = .inl s' → Rn l G iX4_choose (d + 2) 8 [(0, rv (some t0)), (1, .int i1), (2, .int i2), (3, .int i3), (4, .int s'.1)] [] s'.2 o u') (k1 : ∀ r : Mem, y = .inr (.inl r) → Rn l G iX4_choose (d + 2) 100 [] [] r o u') (k2 : ∀ r : Mem, y = .inr (.inr (r)) → Rn l G iX4_choose (d + 2) 82 [] [] r o u') : Rn l G iX4_choose (d + 2) 8 [(0, rv (some t0)), (1, .int i1), (2, .int i2), (3, .int i3), (4, .int s4)] [] u o u' := by
  unfold bX4_choose_8 at h
  refine rn_iload (pc := 8) 4 dX4_choose_8 rfl ?_
  refine rn_aload_n (pc := 10) 0 dX4_choose_10 rfl rfl ?_
  obtain ⟨v2, hv2, h1⟩ := bnd_some h
  refine rn_getR (pc := 11) (k := 1) okX4 (by decide) tw_400 rfl dX4_choose_11 hv2 ?_
  obtain ⟨v3, hv3, h2⟩ := bnd_some h1
  refine rn_getI (pc := 14) (k := 3) okX0 (by decide) tw_264 rfl dX4_choose_14 hv3 ?_
  rcases if_elim h2 with ⟨c4, h3⟩ | ⟨c4, h3⟩
  · refine rn_ige_f (pc := 17) 100 dX4_choose_17 (by decide) c4 ?_
    refine rn_aload_n (pc := 20) 0 dX4_choose_20 rfl rfl ?_
    obtain ⟨v5, hv5, h4⟩ := bnd_some h3
    refine rn_getI (pc := 21) (k := 7) okX4 (by decide) tw_406 rfl dX4_choose_21 hv5 ?_
    refine rn_iconst (pc := 24) (v := 4) dX4_choose_24 (by decide) ?_
    rcases if_elim h4 with ⟨c6, h5⟩ | ⟨c6, h5⟩
    · refine rn_ige_f (pc := 25) 100 dX4_choose_25 (by decide) c6 ?_
      refine rn_iload_n (pc := 28) 3 dX4_choose_28 rfl rfl ?_
      refine rn_iload (pc := 29) 4 dX4_choose_29 rfl ?_
      refine rn_ishr (pc := 31) dX4_choose_31 ?_
      refine rn_iconst (pc := 32) (v := 1) dX4_choose_32 (by decide) ?_
      refine rn_iand (pc := 33) dX4_choose_33 ?_
      refine rn_iconst (pc := 34) (v := 1) dX4_choose_34 (by decide) ?_
      rcases if_elim h5 with ⟨c7, h6⟩ | ⟨c7, h6⟩
      · refine rn_ine_f (pc := 35) 94 dX4_choose_35 (by decide) c7 ?_
        refine rn_aload_n (pc := 38) 0 dX4_choose_38 rfl rfl ?_
        obtain ⟨v8, hv8, h7⟩ := bnd_some h6
        refine rn_getR (pc := 39) (k := 3) okX4 (by decide) tw_402 rfl dX4_choose_39 hv8 ?_
        refine rn_aload_n (pc := 42) 0 dX4_choose_42 rfl rfl ?_
        obtain ⟨v9, hv9, h8⟩ := bnd_some h7
        refine rn_getI (pc := 43) (k := 7) okX4 (by decide) tw_406 rfl dX4_choose_43 hv9 ?_
        refine rn_iload (pc := 46) 4 dX4_choose_46 rfl ?_
        obtain ⟨u10, hu10, h9⟩ := bnd_some h8
        refine rn_iast (pc := 48) dX4_choose_48 hu10 ?_
        refine rn_aload_n (pc := 49) 0 dX4_choose_49 rfl rfl ?_
        obtain ⟨v11, hv11, h10⟩ := bnd_some h9
        refine rn_getR (pc := 50) (k := 4) okX4 (by decide) tw_403 rfl dX4_choose_50 hv11 ?_
        refine rn_aload_n (pc := 53) 0 dX4_choose_53 rfl rfl ?_
        obtain ⟨v12, hv12, h11⟩ := bnd_some h10
        refine rn_getI (pc := 54) (k := 7) okX4 (by decide) tw_406 rfl dX4_choose_54 hv12 ?_
        refine rn_aload_n (pc := 57) 0 dX4_choose_57 rfl rfl ?_
        obtain ⟨v13, hv13, h12⟩ := bnd_some h11
        refine rn_getR (pc := 58) (k := 1) okX4 (by decide) tw_400 rfl dX4_choose_58 hv13 ?_
        refine rn_iload_n (pc := 61) 1 dX4_choose_61 rfl rfl ?_
        refine rn_iload (pc := 62) 4 dX4_choose_62 rfl ?_
        refine rn_iload_n (pc := 64) 2 dX4_choose_64 rfl rfl ?_
        obtain ⟨b14, hb14, h13⟩ := bnd_some h12
        obtain ⟨qb14, kb14⟩ := chk_elim hb14
        subst qb14
        obtain ⟨v15, hv15, h14⟩ := bnd_some h13
        refine rn_callV (pc := 65) (n := 3) (As := [.int i1, .int s4, .int i2]) (rest := [.int v12, rv v11]) (eX0_heldTenth (d := d + 0) hv15) (by omega) okX0 kb14 tw_650 tw_72 tw_892 tw_648 tw_649 (by decide +kernel) rfl (cat_le8 (Nat.le_of_ble_eq_true rfl)) dX4_choose_65 rfl ?_
        obtain ⟨u16, hu16, h15⟩ := bnd_some h14
        refine rn_iast (pc := 68) dX4_choose_68 hu16 ?_
        refine rn_aload_n (pc := 69) 0 dX4_choose_69 rfl rfl ?_
        obtain ⟨v17, hv17, h16⟩ := bnd_some h15
        refine rn_getR (pc := 70) (k := 4) okX4 (by decide) tw_403 rfl dX4_choose_70 hv17 ?_
        refine rn_aload_n (pc := 73) 0 dX4_choose_73 rfl rfl ?_
        obtain ⟨v18, hv18, h17⟩ := bnd_some h16
        refine rn_getI (pc := 74) (k := 7) okX4 (by decide) tw_406 rfl dX4_choose_74 hv18 ?_
        obtain ⟨v19, hv19, h18⟩ := bnd_some h17
        refine rn_iald (pc := 77) dX4_choose_77 hv19 ?_
        refine rn_iconst (pc := 78) (v := -1) dX4_choose_78 (by decide) ?_
        rcases if_elim h18 with ⟨c20, h19⟩ | ⟨c20, h19⟩
        · refine rn_ine_f (pc := 79) 84 dX4_choose_79 (by decide) c20 ?_
          cases h19
          exact rn_sub [] rfl (k2 _ rfl)
        · refine rn_ine_t (pc := 79) (tgt := 84) dX4_choose_79 (by decide) c20 ?_
          refine rn_aload_n (pc := 84) 0 dX4_choose_84 rfl rfl ?_
          refine rn_dup (pc := 85) dX4_choose_85 (rv_cat _) ?_
          obtain ⟨v21, hv21, h20⟩ := bnd_some h19
          refine rn_getI (pc := 86) (k := 7) okX4 (by decide) tw_406 rfl dX4_choose_86 hv21 ?_
          refine rn_iconst (pc := 89) (v := 1) dX4_choose_89 (by decide) ?_
          refine rn_iadd (pc := 90) dX4_choose_90 ?_
          obtain ⟨u22, hu22, h21⟩ := bnd_some h20
          refine rn_putI (pc := 91) (k := 7) okX4 (by decide) tw_406 (Or.inl rfl) (Or.inl rfl) dX4_choose_91 hu22 ?_
          obtain ⟨x23, ex23, h22⟩ := nm_elim h21
          refine rn_iinc (pc := 94) (v := x23) (lv' := [(4, .int x23), (0, rv (some t0)), (1, .int i1), (2, .int i2), (3, .int i3)]) 4 dX4_choose_94 rfl (by rw [ex23]; rfl) (by decide) rfl ?_
          refine rn_goto (pc := 97) (tgt := 8) dX4_choose_97 (by decide) ?_
          cases h22
          exact rn_sub [1, 2, 3, 4, 0] rfl (k0 _ rfl)
      · refine rn_ine_t (pc := 35) (tgt := 94) dX4_choose_35 (by decide) c7 ?_
        obtain ⟨x24, ex24, h23⟩ := nm_elim h6
        refine rn_iinc (pc := 94) (v := x24) (lv' := [(4, .int x24), (0, rv (some t0)), (1, .int i1), (2, .int i2), (3, .int i3)]) 4 dX4_choose_94 rfl (by rw [ex24]; rfl) (by decide) rfl ?_
        refine rn_goto (pc := 97) (tgt := 8) dX4_choose_97 (by decide) ?_
        cases h23
        exact rn_sub [1, 2, 3, 4, 0] rfl (k0 _ rfl)
    · refine rn_ige_t (pc := 25) (tgt := 100) dX4_choose_25 (by decide) c6 ?_
      cases h5
      exact rn_sub [] rfl (k1 _ rfl)
  · refine rn_ige_t (pc := 17) (tgt := 100) dX4_choose_17 (by decide) c4 ?_
    cases h3
    exact rn_sub [] rfl (k1 _ rfl)
theorem lX4_choose_8 {l : Launch} {G : Gt} {d : Nat} {t0 : Nat} {i1 : Int32} {i2 : Int32} {i3 : Int32} {N : Nat} {s0 : Int32 × Mem} {r : (Mem) ⊕ (Mem)} {o : Outcome} {u' : Mem} (h : lp (fun s : Int32 × Mem => bX4_choose_8 t0 i1 i2 i3 s.1 s.2) N s0 = some r) (k1 : ∀ r' : Mem, r = .inl r' → Rn l G iX4_choose (d + 2) 100 [] [] r' o u') (k2 : ∀ r' : Mem, r = .inr (r') → Rn l G iX4_choose (d + 2) 82 [] [] r' o u') : Rn l G iX4_choose (d + 2) 8 [(0, rv (some t0)), (1, .int i1), (2, .int i2), (3, .int i3), (4, .int s0.1)] [] s0.2 o u' :=
  lp_run (P := fun s : Int32 × Mem => Rn l G iX4_choose (d + 2) 8 [(0, rv (some t0)), (1, .int i1), (2, .int i2), (3, .int i3), (4, .int s.1)] [] s.2 o u') (E := fun r => (∀ r' : Mem, r = .inl r' → Rn l G iX4_choose (d + 2) 100 [] [] r' o u') ∧ (∀ r' : Mem, r = .inr (r') → Rn l G iX4_choose (d + 2) 82 [] [] r' o u')) (fun s y hy k0 kE => btX4_choose_8 hy (fun s' e => k0 s' e) (fun r e => (kE _ e).1 r rfl) (fun r e => (kE _ e).2 r rfl)) N s0 r h ⟨k1, k2⟩
theorem tX4_choose {l : Launch} {G : Gt} {d : Nat} {t0 : Nat} {p1 : Int32} {p2 : Int32} {p3 : Int32} {u : Mem} {y : Int32 × Mem} (h : fX4_choose t0 p1 p2 p3 u = some y) : Rn l G iX4_choose (d + 2) 0 [(0, rv (some t0)), (1, .int p1), (2, .int p2), (3, .int p3)] [] u (.returned (some (.int y.1))) y.2 := by
  unfold fX4_choose at h
  refine rn_aload_n (pc := 0) 0 dX4_choose_0 rfl rfl ?_
  refine rn_iconst (pc := 1) (v := 0) dX4_choose_1 (by decide) ?_
  obtain ⟨u1, hu1, h1⟩ := bnd_some h
  refine rn_putI (pc := 2) (k := 7) okX4 (by decide) tw_406 (Or.inl rfl) (Or.inl rfl) dX4_choose_2 hu1 ?_
  refine rn_iconst (pc := 5) (v := 0) dX4_choose_5 (by decide) ?_
  refine rn_istore (pc := 6) (lv' := [(4, .int (0 : Int32)), (0, rv (some t0)), (1, .int p1), (2, .int p2), (3, .int p3)]) dX4_choose_6 (by decide) rfl ?_
  obtain ⟨r25, hr25, h2⟩ := bnd_some h1
  rcases r25 with r26 | r27
  · refine rn_sub [1, 2, 3, 4, 0] rfl (lX4_choose_8 hr25 (fun _ hq => ?_) (fun _ hq => by cases hq))
    cases hq
    have h3 := sumE_l h2
    refine rn_iconst (pc := 100) (v := 1) dX4_choose_100 (by decide) ?_
    cases h3
    exact rn_zret (pc := 101) (by decide) rfl dX4_choose_101
  · refine rn_sub [1, 2, 3, 4, 0] rfl (lX4_choose_8 hr25 (fun _ hq => by cases hq) (fun _ hq => ?_))
    cases hq
    have h4 := sumE_r h2
    refine rn_iconst (pc := 82) (v := 0) dX4_choose_82 (by decide) ?_
    cases h4
    exact rn_zret (pc := 83) (by decide) rfl dX4_choose_83
theorem eX4_choose {l : Launch} {G : Gt} {d : Nat} {t0 : Nat} {p1 : Int32} {p2 : Int32} {p3 : Int32} {u : Mem} {y : Int32 × Mem} (h : fX4_choose t0 p1 p2 p3 u = some y) : Ex l G iX4_choose (d + 2) [rv (some t0), .int p1, .int p2, .int p3] u (.returned (some (.int y.1))) y.2 := Ex.of (by decide +kernel) (by decide) (Nat.le_of_ble_eq_true rfl) rfl (tX4_choose h)
theorem jtX4_placeTiedTo_2_91 {l : Launch} {G : Gt} {d : Nat} {t0 : Nat} {i1 : Int32} {i2 : Int32} {p3 : Int32} {p4 : Int32} {w0 : Int32} {u : Mem}  {y : (Int32) ⊕ ((Unit) ⊕ (Int32))} {o : Outcome} {u' : Mem} (h : jX4_placeTiedTo_2_91 t0 i1 i2 p3 p4 w0 u = some y) (k0 : ∀ s' : Int32, y = .inl s' → Rn l G iX4_placeTiedTo d 2 [(0, rv (some t0)), (1, .int i1), (2, .int i2), (3, .int s')] [] u o u') (k1 : ∀ r : Unit, y = .inr (.inl r) → Rn l G iX4_placeTiedTo d 111 [] [] u o u') (k2 : ∀ r : Int32, y = .inr (.inr (r)) → Rn l G iX4_placeTiedTo d 103 [(3, .int r)] [] u o u') : Rn l G iX4_placeTiedTo d 91 [(0, rv (some t0)), (1, .int i1), (2, .int i2), (3, .int p3), (4, .int p4)] [.int w0] u o u' := by
  unfold jX4_placeTiedTo_2_91 at h
  refine rn_istore (pc := 91) (lv' := [(5, .int w0), (0, rv (some t0)), (1, .int i1), (2, .int i2), (3, .int p3), (4, .int p4)]) dX4_placeTiedTo_91 (by decide) rfl ?_
  refine rn_iload (pc := 93) 5 dX4_placeTiedTo_93 rfl ?_
  rcases if_elim h with ⟨c26, h1⟩ | ⟨c26, h1⟩
  · refine rn_zne_f (pc := 95) 103 dX4_placeTiedTo_95 (by decide) c26 ?_
    refine rn_iload (pc := 98) 0 dX4_placeTiedTo_98 rfl ?_
    rcases if_elim h1 with ⟨c27, h2⟩ | ⟨c27, h2⟩
    · refine rn_zeq_t (pc := 100) (tgt := 105) dX4_placeTiedTo_100 (by decide) c27 ?_
      obtain ⟨x28, ex28, h3⟩ := nm_elim h2
      refine rn_iinc (pc := 105) (v := x28) (lv' := [(3, .int x28), (5, .int w0), (0, rv (some t0)), (1, .int i1), (2, .int i2), (4, .int p4)]) 4 dX4_placeTiedTo_105 rfl (by rw [ex28]; rfl) (by decide) rfl ?_
      refine rn_goto (pc := 108) (tgt := 2) dX4_placeTiedTo_108 (by decide) ?_
      cases h3
      exact rn_sub [2, 3, 4, 0] rfl (k0 _ rfl)
    · refine rn_zeq_f (pc := 100) 105 dX4_placeTiedTo_100 (by decide) c27 ?_
      cases h2
      exact rn_sub [4] rfl (k2 _ rfl)
  · refine rn_zne_t (pc := 95) (tgt := 103) dX4_placeTiedTo_95 (by decide) c26 ?_
    cases h1
    exact rn_sub [4] rfl (k2 _ rfl)
theorem jtX4_placeTiedTo_2_90 {l : Launch} {G : Gt} {d : Nat} {t0 : Nat} {i1 : Int32} {i2 : Int32} {p3 : Int32} {p4 : Int32} {u : Mem}  {y : (Int32) ⊕ ((Unit) ⊕ (Int32))} {o : Outcome} {u' : Mem} (h : jX4_placeTiedTo_2_90 t0 i1 i2 p3 p4 u = some y) (k0 : ∀ s' : Int32, y = .inl s' → Rn l G iX4_placeTiedTo d 2 [(0, rv (some t0)), (1, .int i1), (2, .int i2), (3, .int s')] [] u o u') (k1 : ∀ r : Unit, y = .inr (.inl r) → Rn l G iX4_placeTiedTo d 111 [] [] u o u') (k2 : ∀ r : Int32, y = .inr (.inr (r)) → Rn l G iX4_placeTiedTo d 103 [(3, .int r)] [] u o u') : Rn l G iX4_placeTiedTo d 90 [(0, rv (some t0)), (1, .int i1), (2, .int i2), (3, .int p3), (4, .int p4)] [] u o u' := by
  unfold jX4_placeTiedTo_2_90 at h
  refine rn_iconst (pc := 90) (v := 0) dX4_placeTiedTo_90 (by decide) ?_
  exact rn_sub [0, 1, 2, 3, 4] rfl (jtX4_placeTiedTo_2_91 h k0 k1 k2)
theorem jtX4_placeTiedTo_2_48 {l : Launch} {G : Gt} {d : Nat} {t0 : Nat} {i1 : Int32} {i2 : Int32} {p3 : Int32} {w0 : Int32} {u : Mem}  {y : (Int32) ⊕ ((Unit) ⊕ (Int32))} {o : Outcome} {u' : Mem} (h : jX4_placeTiedTo_2_48 t0 i1 i2 p3 w0 u = some y) (k0 : ∀ s' : Int32, y = .inl s' → Rn l G iX4_placeTiedTo d 2 [(0, rv (some t0)), (1, .int i1), (2, .int i2), (3, .int s')] [] u o u') (k1 : ∀ r : Unit, y = .inr (.inl r) → Rn l G iX4_placeTiedTo d 111 [] [] u o u') (k2 : ∀ r : Int32, y = .inr (.inr (r)) → Rn l G iX4_placeTiedTo d 103 [(3, .int r)] [] u o u') : Rn l G iX4_placeTiedTo d 48 [(0, rv (some t0)), (1, .int i1), (2, .int i2), (3, .int p3)] [.int w0] u o u' := by
  unfold jX4_placeTiedTo_2_48 at h
  refine rn_istore (pc := 48) (lv' := [(4, .int w0), (0, rv (some t0)), (1, .int i1), (2, .int i2), (3, .int p3)]) dX4_placeTiedTo_48 (by decide) rfl ?_
  refine rn_aload_n (pc := 50) 1 dX4_placeTiedTo_50 rfl rfl ?_
  obtain ⟨v14, hv14, h1⟩ := bnd_some h
  refine rn_getR (pc := 51) (k := 2) okX4 (by decide) tw_401 rfl dX4_placeTiedTo_51 hv14 ?_
  obtain ⟨v15, hv15, h2⟩ := bnd_some h1
  refine rn_getR (pc := 54) (k := 1) okX9 (by decide) tw_371 rfl dX4_placeTiedTo_54 hv15 ?_
  refine rn_iload_n (pc := 57) 3 dX4_placeTiedTo_57 rfl rfl ?_
  obtain ⟨v16, hv16, h3⟩ := bnd_some h2
  refine rn_iald (pc := 58) dX4_placeTiedTo_58 hv16 ?_
  refine rn_aload_n (pc := 59) 1 dX4_placeTiedTo_59 rfl rfl ?_
  obtain ⟨v17, hv17, h4⟩ := bnd_some h3
  refine rn_getR (pc := 60) (k := 3) okX4 (by decide) tw_402 rfl dX4_placeTiedTo_60 hv17 ?_
  refine rn_iload_n (pc := 63) 4 dX4_placeTiedTo_63 rfl rfl ?_
  obtain ⟨v18, hv18, h5⟩ := bnd_some h4
  refine rn_iald (pc := 64) dX4_placeTiedTo_64 hv18 ?_
  rcases if_elim h5 with ⟨c19, h6⟩ | ⟨c19, h6⟩
  · refine rn_ine_f (pc := 65) 90 dX4_placeTiedTo_65 (by decide) c19 ?_
    refine rn_aload_n (pc := 68) 1 dX4_placeTiedTo_68 rfl rfl ?_
    obtain ⟨v20, hv20, h7⟩ := bnd_some h6
    refine rn_getR (pc := 69) (k := 2) okX4 (by decide) tw_401 rfl dX4_placeTiedTo_69 hv20 ?_
    obtain ⟨v21, hv21, h8⟩ := bnd_some h7
    refine rn_getR (pc := 72) (k := 0) okX9 (by decide) tw_369 rfl dX4_placeTiedTo_72 hv21 ?_
    refine rn_iload_n (pc := 75) 3 dX4_placeTiedTo_75 rfl rfl ?_
    obtain ⟨v22, hv22, h9⟩ := bnd_some h8
    refine rn_iald (pc := 76) dX4_placeTiedTo_76 hv22 ?_
    refine rn_aload_n (pc := 77) 1 dX4_placeTiedTo_77 rfl rfl ?_
    obtain ⟨v23, hv23, h10⟩ := bnd_some h9
    refine rn_getR (pc := 78) (k := 3) okX4 (by decide) tw_402 rfl dX4_placeTiedTo_78 hv23 ?_
    refine rn_iload_n (pc := 81) 2 dX4_placeTiedTo_81 rfl rfl ?_
    obtain ⟨v24, hv24, h11⟩ := bnd_some h10
    refine rn_iald (pc := 82) dX4_placeTiedTo_82 hv24 ?_
    rcases if_elim h11 with ⟨c25, h12⟩ | ⟨c25, h12⟩
    · refine rn_ine_f (pc := 83) 90 dX4_placeTiedTo_83 (by decide) c25 ?_
      refine rn_iconst (pc := 86) (v := 1) dX4_placeTiedTo_86 (by decide) ?_
      refine rn_goto (pc := 87) (tgt := 91) dX4_placeTiedTo_87 (by decide) ?_
      exact rn_sub [1, 2, 3, 4, 0] rfl (jtX4_placeTiedTo_2_91 h12 k0 k1 k2)
    · refine rn_ine_t (pc := 83) (tgt := 90) dX4_placeTiedTo_83 (by decide) c25 ?_
      exact rn_sub [1, 2, 3, 4, 0] rfl (jtX4_placeTiedTo_2_90 h12 k0 k1 k2)
  · refine rn_ine_t (pc := 65) (tgt := 90) dX4_placeTiedTo_65 (by decide) c19 ?_
    exact rn_sub [1, 2, 3, 4, 0] rfl (jtX4_placeTiedTo_2_90 h6 k0 k1 k2)
theorem jtX4_placeTiedTo_2_47 {l : Launch} {G : Gt} {d : Nat} {t0 : Nat} {i1 : Int32} {i2 : Int32} {p3 : Int32} {u : Mem}  {y : (Int32) ⊕ ((Unit) ⊕ (Int32))} {o : Outcome} {u' : Mem} (h : jX4_placeTiedTo_2_47 t0 i1 i2 p3 u = some y) (k0 : ∀ s' : Int32, y = .inl s' → Rn l G iX4_placeTiedTo d 2 [(0, rv (some t0)), (1, .int i1), (2, .int i2), (3, .int s')] [] u o u') (k1 : ∀ r : Unit, y = .inr (.inl r) → Rn l G iX4_placeTiedTo d 111 [] [] u o u') (k2 : ∀ r : Int32, y = .inr (.inr (r)) → Rn l G iX4_placeTiedTo d 103 [(3, .int r)] [] u o u') : Rn l G iX4_placeTiedTo d 47 [(0, rv (some t0)), (1, .int i1), (2, .int i2), (3, .int p3)] [] u o u' := by
  unfold jX4_placeTiedTo_2_47 at h
  refine rn_iconst (pc := 47) (v := 0) dX4_placeTiedTo_47 (by decide) ?_
  exact rn_sub [0, 1, 2, 3] rfl (jtX4_placeTiedTo_2_48 h k0 k1 k2)
theorem btX4_placeTiedTo_2 {l : Launch} {G : Gt} {d : Nat} {t0 : Nat} {i1 : Int32} {i2 : Int32} {u : Mem} {s3 : Int32} {y : (Int32) ⊕ ((Unit) ⊕ (Int32))} {o : Outcome} {u' : Mem} (h : bX4_placeTiedTo_2 t0 i1 i2 u s3 = some y) (k0 : ∀ s' : Int32, y = .inl s' → Rn l G iX4_placeTiedTo d 2 [(0, rv (some t0)), (1, .int i1), (2, .int i2), (3, .int s')] [] u o u') (k1 : ∀ r : Unit, y = .inr (.inl r) → Rn l G iX4_placeTiedTo d 111 [] [] u o u') (k2 : ∀ r : Int32, y = .inr (.inr (r)) → Rn l G iX4_placeTiedTo d 103 [(3, .int r)] [] u o u') : Rn l G iX4_placeTiedTo d 2 [(0, rv (some t0)), (1, .int i1), (2, .int i2), (3, .int s3)] [] u o u' := by
  unfold bX4_placeTiedTo_2 at h
  refine rn_iload_n (pc := 2) 3 dX4_placeTiedTo_2 rfl rfl ?_
  refine rn_iload_n (pc := 3) 1 dX4_placeTiedTo_3 rfl rfl ?_
  rcases if_elim h with ⟨c1, h1⟩ | ⟨c1, h1⟩
  · refine rn_ige_f (pc := 4) 111 dX4_placeTiedTo_4 (by decide) c1 ?_
    refine rn_aload_n (pc := 7) 0 dX4_placeTiedTo_7 rfl rfl ?_
    obtain ⟨v2, hv2, h2⟩ := bnd_some h1
    refine rn_getR (pc := 8) (k := 2) okX4 (by decide) tw_401 rfl dX4_placeTiedTo_8 hv2 ?_
    obtain ⟨v3, hv3, h3⟩ := bnd_some h2
    refine rn_getR (pc := 11) (k := 0) okX9 (by decide) tw_369 rfl dX4_placeTiedTo_11 hv3 ?_
    refine rn_iload_n (pc := 14) 2 dX4_placeTiedTo_14 rfl rfl ?_
    obtain ⟨v4, hv4, h4⟩ := bnd_some h3
    refine rn_iald (pc := 15) dX4_placeTiedTo_15 hv4 ?_
    refine rn_aload_n (pc := 16) 0 dX4_placeTiedTo_16 rfl rfl ?_
    obtain ⟨v5, hv5, h5⟩ := bnd_some h4
    refine rn_getR (pc := 17) (k := 3) okX4 (by decide) tw_402 rfl dX4_placeTiedTo_17 hv5 ?_
    refine rn_iload_n (pc := 20) 3 dX4_placeTiedTo_20 rfl rfl ?_
    obtain ⟨v6, hv6, h6⟩ := bnd_some h5
    refine rn_iald (pc := 21) dX4_placeTiedTo_21 hv6 ?_
    rcases if_elim h6 with ⟨c7, h7⟩ | ⟨c7, h7⟩
    · refine rn_ine_f (pc := 22) 47 dX4_placeTiedTo_22 (by decide) c7 ?_
      refine rn_aload_n (pc := 25) 0 dX4_placeTiedTo_25 rfl rfl ?_
      obtain ⟨v8, hv8, h8⟩ := bnd_some h7
      refine rn_getR (pc := 26) (k := 2) okX4 (by decide) tw_401 rfl dX4_placeTiedTo_26 hv8 ?_
      obtain ⟨v9, hv9, h9⟩ := bnd_some h8
      refine rn_getR (pc := 29) (k := 1) okX9 (by decide) tw_371 rfl dX4_placeTiedTo_29 hv9 ?_
      refine rn_iload_n (pc := 32) 2 dX4_placeTiedTo_32 rfl rfl ?_
      obtain ⟨v10, hv10, h10⟩ := bnd_some h9
      refine rn_iald (pc := 33) dX4_placeTiedTo_33 hv10 ?_
      refine rn_aload_n (pc := 34) 0 dX4_placeTiedTo_34 rfl rfl ?_
      obtain ⟨v11, hv11, h11⟩ := bnd_some h10
      refine rn_getR (pc := 35) (k := 3) okX4 (by decide) tw_402 rfl dX4_placeTiedTo_35 hv11 ?_
      refine rn_iload_n (pc := 38) 1 dX4_placeTiedTo_38 rfl rfl ?_
      obtain ⟨v12, hv12, h12⟩ := bnd_some h11
      refine rn_iald (pc := 39) dX4_placeTiedTo_39 hv12 ?_
      rcases if_elim h12 with ⟨c13, h13⟩ | ⟨c13, h13⟩
      · refine rn_ine_f (pc := 40) 47 dX4_placeTiedTo_40 (by decide) c13 ?_
        refine rn_iconst (pc := 43) (v := 1) dX4_placeTiedTo_43 (by decide) ?_
        refine rn_goto (pc := 44) (tgt := 48) dX4_placeTiedTo_44 (by decide) ?_
        exact rn_sub [0, 1, 2, 3] rfl (jtX4_placeTiedTo_2_48 h13 k0 k1 k2)
      · refine rn_ine_t (pc := 40) (tgt := 47) dX4_placeTiedTo_40 (by decide) c13 ?_
        exact rn_sub [0, 1, 2, 3] rfl (jtX4_placeTiedTo_2_47 h13 k0 k1 k2)
    · refine rn_ine_t (pc := 22) (tgt := 47) dX4_placeTiedTo_22 (by decide) c7 ?_
      exact rn_sub [0, 1, 2, 3] rfl (jtX4_placeTiedTo_2_47 h7 k0 k1 k2)
  · refine rn_ige_t (pc := 4) (tgt := 111) dX4_placeTiedTo_4 (by decide) c1 ?_
    cases h1
    exact rn_sub [] rfl (k1 _ rfl)
theorem lX4_placeTiedTo_2 {l : Launch} {G : Gt} {d : Nat} {t0 : Nat} {i1 : Int32} {i2 : Int32} {u : Mem} {N : Nat} {s0 : Int32} {r : (Unit) ⊕ (Int32)} {o : Outcome} {u' : Mem} (h : lp (fun s : Int32 => bX4_placeTiedTo_2 t0 i1 i2 u s) N s0 = some r) (k1 : ∀ r' : Unit, r = .inl r' → Rn l G iX4_placeTiedTo d 111 [] [] u o u') (k2 : ∀ r' : Int32, r = .inr (r') → Rn l G iX4_placeTiedTo d 103 [(3, .int r')] [] u o u') : Rn l G iX4_placeTiedTo d 2 [(0, rv (some t0)), (1, .int i1), (2, .int i2), (3, .int s0)] [] u o u' :=
  lp_run (P := fun s : Int32 => Rn l G iX4_placeTiedTo d 2 [(0, rv (some t0)), (1, .int i1), (2, .int i2), (3, .int s)] [] u o u') (E := fun r => (∀ r' : Unit, r = .inl r' → Rn l G iX4_placeTiedTo d 111 [] [] u o u') ∧ (∀ r' : Int32, r = .inr (r') → Rn l G iX4_placeTiedTo d 103 [(3, .int r')] [] u o u')) (fun s y hy k0 kE => btX4_placeTiedTo_2 hy (fun s' e => k0 s' e) (fun r e => (kE _ e).1 r rfl) (fun r e => (kE _ e).2 r rfl)) N s0 r h ⟨k1, k2⟩
theorem tX4_placeTiedTo {l : Launch} {G : Gt} {d : Nat} {t0 : Nat} {p1 : Int32} {p2 : Int32} {u : Mem} {y : Int32} (h : fX4_placeTiedTo t0 p1 p2 u = some y) : Rn l G iX4_placeTiedTo d 0 [(0, rv (some t0)), (1, .int p1), (2, .int p2)] [] u (.returned (some (.int y))) u := by
  unfold fX4_placeTiedTo at h
  refine rn_iconst (pc := 0) (v := 0) dX4_placeTiedTo_0 (by decide) ?_
  refine rn_istore_n (pc := 1) (lv' := [(3, .int (0 : Int32)), (0, rv (some t0)), (1, .int p1), (2, .int p2)]) dX4_placeTiedTo_1 rfl (by decide) rfl ?_
  obtain ⟨r29, hr29, h1⟩ := bnd_some h
  rcases r29 with r30 | r31
  · refine rn_sub [1, 2, 3, 0] rfl (lX4_placeTiedTo_2 hr29 (fun _ hq => ?_) (fun _ hq => by cases hq))
    cases hq
    have h2 := sumE_l h1
    refine rn_iconst (pc := 111) (v := -1) dX4_placeTiedTo_111 (by decide) ?_
    cases h2
    exact rn_iret (pc := 112) rfl dX4_placeTiedTo_112
  · refine rn_sub [1, 2, 3, 0] rfl (lX4_placeTiedTo_2 hr29 (fun _ hq => by cases hq) (fun _ hq => ?_))
    cases hq
    have h3 := sumE_r h1
    refine rn_iload_n (pc := 103) 0 dX4_placeTiedTo_103 rfl rfl ?_
    cases h3
    exact rn_iret (pc := 104) rfl dX4_placeTiedTo_104
theorem eX4_placeTiedTo {l : Launch} {G : Gt} {d : Nat} {t0 : Nat} {p1 : Int32} {p2 : Int32} {u : Mem} {y : Int32} (h : fX4_placeTiedTo t0 p1 p2 u = some y) : Ex l G iX4_placeTiedTo d [rv (some t0), .int p1, .int p2] u (.returned (some (.int y))) u := Ex.of (by decide +kernel) (by decide) (Nat.le_of_ble_eq_true rfl) rfl (tX4_placeTiedTo h)
theorem jtX4_highestByTie_53 {l : Launch} {G : Gt} {d : Nat} {p3 : Int32} {w0 : Int32} {u : Mem} {y : Int32} (h : jX4_highestByTie_53 p3 w0 u = some y) : Rn l G iX4_highestByTie d 53 [(3, .int p3)] [.int w0] u (.returned (some (.int y))) u := by
  unfold jX4_highestByTie_53 at h
  refine rn_istore (pc := 53) (lv' := [(4, .int w0), (3, .int p3)]) dX4_highestByTie_53 (by decide) rfl ?_
  refine rn_iload (pc := 55) 0 dX4_highestByTie_55 rfl ?_
  rcases if_elim h with ⟨c15, h1⟩ | ⟨c15, h1⟩
  · refine rn_zeq_t (pc := 57) (tgt := 64) dX4_highestByTie_57 (by decide) c15 ?_
    refine rn_bipush (pc := 64) (v := 10) dX4_highestByTie_64 (by decide) ?_
    cases h1
    exact rn_iret (pc := 66) rfl dX4_highestByTie_66
  · refine rn_zeq_f (pc := 57) 64 dX4_highestByTie_57 (by decide) c15 ?_
    refine rn_iload_n (pc := 60) 1 dX4_highestByTie_60 rfl rfl ?_
    refine rn_goto (pc := 61) (tgt := 66) dX4_highestByTie_61 (by decide) ?_
    cases h1
    exact rn_iret (pc := 66) rfl dX4_highestByTie_66
theorem jtX4_highestByTie_52 {l : Launch} {G : Gt} {d : Nat} {p3 : Int32} {u : Mem} {y : Int32} (h : jX4_highestByTie_52 p3 u = some y) : Rn l G iX4_highestByTie d 52 [(3, .int p3)] [] u (.returned (some (.int y))) u := by
  unfold jX4_highestByTie_52 at h
  refine rn_iconst (pc := 52) (v := 0) dX4_highestByTie_52 (by decide) ?_
  exact rn_sub [0] rfl (jtX4_highestByTie_53 h)
theorem tX4_highestByTie {l : Launch} {G : Gt} {d : Nat} {t0 : Nat} {p1 : Int32} {p2 : Int32} {p3 : Int32} {u : Mem} {y : Int32} (h : fX4_highestByTie t0 p1 p2 p3 u = some y) : Rn l G iX4_highestByTie d 0 [(0, rv (some t0)), (1, .int p1), (2, .int p2), (3, .int p3)] [] u (.returned (some (.int y))) u := by
  unfold fX4_highestByTie at h
  refine rn_aload_n (pc := 0) 0 dX4_highestByTie_0 rfl rfl ?_
  obtain ⟨v1, hv1, h1⟩ := bnd_some h
  refine rn_getR (pc := 1) (k := 2) okX4 (by decide) tw_401 rfl dX4_highestByTie_1 hv1 ?_
  obtain ⟨v2, hv2, h2⟩ := bnd_some h1
  refine rn_getR (pc := 4) (k := 2) okX9 (by decide) tw_373 rfl dX4_highestByTie_4 hv2 ?_
  refine rn_iload_n (pc := 7) 1 dX4_highestByTie_7 rfl rfl ?_
  obtain ⟨v3, hv3, h3⟩ := bnd_some h2
  refine rn_iald (pc := 8) dX4_highestByTie_8 hv3 ?_
  refine rn_iconst (pc := 9) (v := 1) dX4_highestByTie_9 (by decide) ?_
  rcases if_elim h3 with ⟨c4, h4⟩ | ⟨c4, h4⟩
  · refine rn_ine_f (pc := 10) 18 dX4_highestByTie_10 (by decide) c4 ?_
    refine rn_bipush (pc := 13) (v := 10) dX4_highestByTie_13 (by decide) ?_
    refine rn_iload_n (pc := 15) 3 dX4_highestByTie_15 rfl rfl ?_
    refine rn_isub (pc := 16) dX4_highestByTie_16 ?_
    cases h4
    exact rn_iret (pc := 17) rfl dX4_highestByTie_17
  · refine rn_ine_t (pc := 10) (tgt := 18) dX4_highestByTie_10 (by decide) c4 ?_
    refine rn_aload_n (pc := 18) 0 dX4_highestByTie_18 rfl rfl ?_
    obtain ⟨v5, hv5, h5⟩ := bnd_some h4
    refine rn_getR (pc := 19) (k := 2) okX4 (by decide) tw_401 rfl dX4_highestByTie_19 hv5 ?_
    obtain ⟨v6, hv6, h6⟩ := bnd_some h5
    refine rn_getR (pc := 22) (k := 2) okX9 (by decide) tw_373 rfl dX4_highestByTie_22 hv6 ?_
    refine rn_iload_n (pc := 25) 1 dX4_highestByTie_25 rfl rfl ?_
    obtain ⟨v7, hv7, h7⟩ := bnd_some h6
    refine rn_iald (pc := 26) dX4_highestByTie_26 hv7 ?_
    rcases if_elim h7 with ⟨c8, h8⟩ | ⟨c8, h8⟩
    · refine rn_zne_f (pc := 27) 52 dX4_highestByTie_27 (by decide) c8 ?_
      refine rn_aload_n (pc := 30) 0 dX4_highestByTie_30 rfl rfl ?_
      obtain ⟨v9, hv9, h9⟩ := bnd_some h8
      refine rn_getR (pc := 31) (k := 2) okX4 (by decide) tw_401 rfl dX4_highestByTie_31 hv9 ?_
      obtain ⟨v10, hv10, h10⟩ := bnd_some h9
      refine rn_getR (pc := 34) (k := 0) okX9 (by decide) tw_369 rfl dX4_highestByTie_34 hv10 ?_
      refine rn_iload_n (pc := 37) 1 dX4_highestByTie_37 rfl rfl ?_
      obtain ⟨v11, hv11, h11⟩ := bnd_some h10
      refine rn_iald (pc := 38) dX4_highestByTie_38 hv11 ?_
      refine rn_aload_n (pc := 39) 0 dX4_highestByTie_39 rfl rfl ?_
      obtain ⟨v12, hv12, h12⟩ := bnd_some h11
      refine rn_getR (pc := 40) (k := 3) okX4 (by decide) tw_402 rfl dX4_highestByTie_40 hv12 ?_
      refine rn_iload_n (pc := 43) 2 dX4_highestByTie_43 rfl rfl ?_
      obtain ⟨v13, hv13, h13⟩ := bnd_some h12
      refine rn_iald (pc := 44) dX4_highestByTie_44 hv13 ?_
      rcases if_elim h13 with ⟨c14, h14⟩ | ⟨c14, h14⟩
      · refine rn_ine_f (pc := 45) 52 dX4_highestByTie_45 (by decide) c14 ?_
        refine rn_iconst (pc := 48) (v := 1) dX4_highestByTie_48 (by decide) ?_
        refine rn_goto (pc := 49) (tgt := 53) dX4_highestByTie_49 (by decide) ?_
        exact rn_sub [3] rfl (jtX4_highestByTie_53 h14)
      · refine rn_ine_t (pc := 45) (tgt := 52) dX4_highestByTie_45 (by decide) c14 ?_
        exact rn_sub [3] rfl (jtX4_highestByTie_52 h14)
    · refine rn_zne_t (pc := 27) (tgt := 52) dX4_highestByTie_27 (by decide) c8 ?_
      exact rn_sub [3] rfl (jtX4_highestByTie_52 h8)
theorem eX4_highestByTie {l : Launch} {G : Gt} {d : Nat} {t0 : Nat} {p1 : Int32} {p2 : Int32} {p3 : Int32} {u : Mem} {y : Int32} (h : fX4_highestByTie t0 p1 p2 p3 u = some y) : Ex l G iX4_highestByTie d [rv (some t0), .int p1, .int p2, .int p3] u (.returned (some (.int y))) u := Ex.of (by decide +kernel) (by decide) (Nat.le_of_ble_eq_true rfl) rfl (tX4_highestByTie h)
theorem btX4_highestFor_5 {l : Launch} {G : Gt} {d : Nat} {t0 : Nat} {i1 : Int32} {u : Mem} {s2 : Int32} {s3 : Int32} {y : (Int32 × Int32) ⊕ (Int32)} {o : Outcome} {u' : Mem} (h : bX4_highestFor_5 t0 i1 u s2 s3 = some y) (k0 : ∀ s' : Int32 × Int32, y = .inl s' → Rn l G iX4_highestFor (d + 1) 5 [(0, rv (some t0)), (1, .int i1), (2, .int s'.1), (3, .int s'.2)] [] u o u') (k1 : ∀ r : Int32, y = .inr (r) → Rn l G iX4_highestFor (d + 1) 54 [(2, .int r)] [] u o u') : Rn l G iX4_highestFor (d + 1) 5 [(0, rv (some t0)), (1, .int i1), (2, .int s2), (3, .int s3)] [] u o u' := by
  unfold bX4_highestFor_5 at h
  refine rn_iload_n (pc := 5) 3 dX4_highestFor_5 rfl rfl ?_
  refine rn_aload_n (pc := 6) 0 dX4_highestFor_6 rfl rfl ?_
  obtain ⟨v1, hv1, h1⟩ := bnd_some h
  refine rn_getR (pc := 7) (k := 2) okX4 (by decide) tw_401 rfl dX4_highestFor_7 hv1 ?_
  obtain ⟨v2, hv2, h2⟩ := bnd_some h1
  refine rn_getI (pc := 10) (k := 3) okX9 (by decide) tw_375 rfl dX4_highestFor_10 hv2 ?_
  rcases if_elim h2 with ⟨c3, h3⟩ | ⟨c3, h3⟩
  · refine rn_ige_f (pc := 13) 54 dX4_highestFor_13 (by decide) c3 ?_
    refine rn_aload_n (pc := 16) 0 dX4_highestFor_16 rfl rfl ?_
    refine rn_iload_n (pc := 17) 1 dX4_highestFor_17 rfl rfl ?_
    refine rn_iload_n (pc := 18) 3 dX4_highestFor_18 rfl rfl ?_
    obtain ⟨b4, hb4, h4⟩ := bnd_some h3
    obtain ⟨qb4, kb4⟩ := chk_elim hb4
    cases qb4
    obtain ⟨v5, hv5, h5⟩ := bnd_some h4
    refine rn_callV (pc := 19) (n := 2) (As := [.int i1, .int s3]) (rest := []) (eX4_placeTiedTo (d := d + 0) hv5) (by omega) okX4 kb4 tw_909 tw_77 tw_907 tw_908 tw_28 (by decide +kernel) rfl (Nat.le_of_ble_eq_true rfl) dX4_highestFor_19 rfl ?_
    refine rn_istore (pc := 22) (lv' := [(4, .int v5), (0, rv (some t0)), (1, .int i1), (2, .int s2), (3, .int s3)]) dX4_highestFor_22 (by decide) rfl ?_
    refine rn_iload (pc := 24) 0 dX4_highestFor_24 rfl ?_
    refine rn_iconst (pc := 26) (v := -1) dX4_highestFor_26 (by decide) ?_
    rcases if_elim h5 with ⟨c6, h6⟩ | ⟨c6, h6⟩
    · refine rn_ieq_t (pc := 27) (tgt := 48) dX4_highestFor_27 (by decide) c6 ?_
      obtain ⟨x7, ex7, h7⟩ := nm_elim h6
      refine rn_iinc (pc := 48) (v := x7) (lv' := [(3, .int x7), (4, .int v5), (0, rv (some t0)), (1, .int i1), (2, .int s2)]) 4 dX4_highestFor_48 rfl (by rw [ex7]; rfl) (by decide) rfl ?_
      refine rn_goto (pc := 51) (tgt := 5) dX4_highestFor_51 (by decide) ?_
      cases h7
      exact rn_sub [2, 3, 4, 0] rfl (k0 _ rfl)
    · refine rn_ieq_f (pc := 27) 48 dX4_highestFor_27 (by decide) c6 ?_
      refine rn_iload_n (pc := 30) 3 dX4_highestFor_30 rfl rfl ?_
      refine rn_aload_n (pc := 31) 1 dX4_highestFor_31 rfl rfl ?_
      refine rn_iload_n (pc := 32) 4 dX4_highestFor_32 rfl rfl ?_
      refine rn_iload_n (pc := 33) 2 dX4_highestFor_33 rfl rfl ?_
      refine rn_aload_n (pc := 34) 1 dX4_highestFor_34 rfl rfl ?_
      obtain ⟨v8, hv8, h8⟩ := bnd_some h6
      refine rn_getR (pc := 35) (k := 5) okX4 (by decide) tw_404 rfl dX4_highestFor_35 hv8 ?_
      refine rn_iload (pc := 38) 0 dX4_highestFor_38 rfl ?_
      obtain ⟨v9, hv9, h9⟩ := bnd_some h8
      refine rn_iald (pc := 40) dX4_highestFor_40 hv9 ?_
      obtain ⟨b10, hb10, h10⟩ := bnd_some h9
      obtain ⟨qb10, kb10⟩ := chk_elim hb10
      cases qb10
      obtain ⟨v11, hv11, h11⟩ := bnd_some h10
      refine rn_callV (pc := 41) (n := 3) (As := [.int s3, .int i1, .int v9]) (rest := [.int s2]) (eX4_highestByTie (d := d + 0) hv11) (by omega) okX4 kb10 tw_912 tw_77 tw_910 tw_911 tw_29 (by decide +kernel) rfl (Nat.le_of_ble_eq_true rfl) dX4_highestFor_41 rfl ?_
      refine rn_mmin (pc := 44) (rest := []) (by omega) tw_913 (Nat.le_of_ble_eq_true rfl) dX4_highestFor_44 ?_
      obtain ⟨x12, ex12, h12⟩ := nm_elim h11
      refine rn_topi ex12 ?_
      refine rn_istore_n (pc := 47) (lv' := [(2, .int x12), (4, .int v5), (0, rv (some t0)), (1, .int i1), (3, .int s3)]) dX4_highestFor_47 rfl (by decide) rfl ?_
      obtain ⟨x13, ex13, h13⟩ := nm_elim h12
      refine rn_iinc (pc := 48) (v := x13) (lv' := [(3, .int x13), (2, .int x12), (4, .int v5), (0, rv (some t0)), (1, .int i1)]) 4 dX4_highestFor_48 rfl (by rw [ex13]; rfl) (by decide) rfl ?_
      refine rn_goto (pc := 51) (tgt := 5) dX4_highestFor_51 (by decide) ?_
      cases h13
      exact rn_sub [3, 4, 1, 0] rfl (k0 _ rfl)
  · refine rn_ige_t (pc := 13) (tgt := 54) dX4_highestFor_13 (by decide) c3 ?_
    cases h3
    exact rn_sub [2] rfl (k1 _ rfl)
theorem lX4_highestFor_5 {l : Launch} {G : Gt} {d : Nat} {t0 : Nat} {i1 : Int32} {u : Mem} {N : Nat} {s0 : Int32 × Int32} {r : Int32} {o : Outcome} {u' : Mem} (h : lp (fun s : Int32 × Int32 => bX4_highestFor_5 t0 i1 u s.1 s.2) N s0 = some r) (k1 : Rn l G iX4_highestFor (d + 1) 54 [(2, .int r)] [] u o u') : Rn l G iX4_highestFor (d + 1) 5 [(0, rv (some t0)), (1, .int i1), (2, .int s0.1), (3, .int s0.2)] [] u o u' :=
  lp_run (P := fun s : Int32 × Int32 => Rn l G iX4_highestFor (d + 1) 5 [(0, rv (some t0)), (1, .int i1), (2, .int s.1), (3, .int s.2)] [] u o u') (E := fun r => Rn l G iX4_highestFor (d + 1) 54 [(2, .int r)] [] u o u') (fun s y hy k0 kE => btX4_highestFor_5 hy (fun s' e => k0 s' e) (fun r e => kE r e)) N s0 r h k1
theorem tX4_highestFor {l : Launch} {G : Gt} {d : Nat} {t0 : Nat} {p1 : Int32} {u : Mem} {y : Int32} (h : fX4_highestFor t0 p1 u = some y) : Rn l G iX4_highestFor (d + 1) 0 [(0, rv (some t0)), (1, .int p1)] [] u (.returned (some (.int y))) u := by
  unfold fX4_highestFor at h
  refine rn_bipush (pc := 0) (v := 10) dX4_highestFor_0 (by decide) ?_
  refine rn_istore_n (pc := 2) (lv' := [(2, .int (10 : Int32)), (0, rv (some t0)), (1, .int p1)]) dX4_highestFor_2 rfl (by decide) rfl ?_
  refine rn_iconst (pc := 3) (v := 0) dX4_highestFor_3 (by decide) ?_
  refine rn_istore_n (pc := 4) (lv' := [(3, .int (0 : Int32)), (2, .int (10 : Int32)), (0, rv (some t0)), (1, .int p1)]) dX4_highestFor_4 rfl (by decide) rfl ?_
  obtain ⟨r14, hr14, h1⟩ := bnd_some h
  refine rn_sub [2, 3, 1, 0] rfl (lX4_highestFor_5 hr14 ?_)
  refine rn_iload_n (pc := 54) 0 dX4_highestFor_54 rfl rfl ?_
  cases h1
  exact rn_iret (pc := 55) rfl dX4_highestFor_55
theorem eX4_highestFor {l : Launch} {G : Gt} {d : Nat} {t0 : Nat} {p1 : Int32} {u : Mem} {y : Int32} (h : fX4_highestFor t0 p1 u = some y) : Ex l G iX4_highestFor (d + 1) [rv (some t0), .int p1] u (.returned (some (.int y))) u := Ex.of (by decide +kernel) (by decide) (Nat.le_of_ble_eq_true rfl) rfl (tX4_highestFor h)
theorem jtX4_lowestByTie_53 {l : Launch} {G : Gt} {d : Nat} {p3 : Int32} {w0 : Int32} {u : Mem} {y : Int32} (h : jX4_lowestByTie_53 p3 w0 u = some y) : Rn l G iX4_lowestByTie d 53 [(3, .int p3)] [.int w0] u (.returned (some (.int y))) u := by
  unfold jX4_lowestByTie_53 at h
  refine rn_istore (pc := 53) (lv' := [(4, .int w0), (3, .int p3)]) dX4_lowestByTie_53 (by decide) rfl ?_
  refine rn_iload (pc := 55) 0 dX4_lowestByTie_55 rfl ?_
  rcases if_elim h with ⟨c15, h1⟩ | ⟨c15, h1⟩
  · refine rn_zeq_t (pc := 57) (tgt := 64) dX4_lowestByTie_57 (by decide) c15 ?_
    refine rn_iconst (pc := 64) (v := 0) dX4_lowestByTie_64 (by decide) ?_
    cases h1
    exact rn_iret (pc := 65) rfl dX4_lowestByTie_65
  · refine rn_zeq_f (pc := 57) 64 dX4_lowestByTie_57 (by decide) c15 ?_
    refine rn_iload_n (pc := 60) 1 dX4_lowestByTie_60 rfl rfl ?_
    refine rn_goto (pc := 61) (tgt := 65) dX4_lowestByTie_61 (by decide) ?_
    cases h1
    exact rn_iret (pc := 65) rfl dX4_lowestByTie_65
theorem jtX4_lowestByTie_52 {l : Launch} {G : Gt} {d : Nat} {p3 : Int32} {u : Mem} {y : Int32} (h : jX4_lowestByTie_52 p3 u = some y) : Rn l G iX4_lowestByTie d 52 [(3, .int p3)] [] u (.returned (some (.int y))) u := by
  unfold jX4_lowestByTie_52 at h
  refine rn_iconst (pc := 52) (v := 0) dX4_lowestByTie_52 (by decide) ?_
  exact rn_sub [0] rfl (jtX4_lowestByTie_53 h)
theorem tX4_lowestByTie {l : Launch} {G : Gt} {d : Nat} {t0 : Nat} {p1 : Int32} {p2 : Int32} {p3 : Int32} {u : Mem} {y : Int32} (h : fX4_lowestByTie t0 p1 p2 p3 u = some y) : Rn l G iX4_lowestByTie d 0 [(0, rv (some t0)), (1, .int p1), (2, .int p2), (3, .int p3)] [] u (.returned (some (.int y))) u := by
  unfold fX4_lowestByTie at h
  refine rn_aload_n (pc := 0) 0 dX4_lowestByTie_0 rfl rfl ?_
  obtain ⟨v1, hv1, h1⟩ := bnd_some h
  refine rn_getR (pc := 1) (k := 2) okX4 (by decide) tw_401 rfl dX4_lowestByTie_1 hv1 ?_
  obtain ⟨v2, hv2, h2⟩ := bnd_some h1
  refine rn_getR (pc := 4) (k := 2) okX9 (by decide) tw_373 rfl dX4_lowestByTie_4 hv2 ?_
  refine rn_iload_n (pc := 7) 1 dX4_lowestByTie_7 rfl rfl ?_
  obtain ⟨v3, hv3, h3⟩ := bnd_some h2
  refine rn_iald (pc := 8) dX4_lowestByTie_8 hv3 ?_
  refine rn_iconst (pc := 9) (v := 2) dX4_lowestByTie_9 (by decide) ?_
  rcases if_elim h3 with ⟨c4, h4⟩ | ⟨c4, h4⟩
  · refine rn_ine_f (pc := 10) 18 dX4_lowestByTie_10 (by decide) c4 ?_
    refine rn_bipush (pc := 13) (v := 10) dX4_lowestByTie_13 (by decide) ?_
    refine rn_iload_n (pc := 15) 3 dX4_lowestByTie_15 rfl rfl ?_
    refine rn_isub (pc := 16) dX4_lowestByTie_16 ?_
    cases h4
    exact rn_iret (pc := 17) rfl dX4_lowestByTie_17
  · refine rn_ine_t (pc := 10) (tgt := 18) dX4_lowestByTie_10 (by decide) c4 ?_
    refine rn_aload_n (pc := 18) 0 dX4_lowestByTie_18 rfl rfl ?_
    obtain ⟨v5, hv5, h5⟩ := bnd_some h4
    refine rn_getR (pc := 19) (k := 2) okX4 (by decide) tw_401 rfl dX4_lowestByTie_19 hv5 ?_
    obtain ⟨v6, hv6, h6⟩ := bnd_some h5
    refine rn_getR (pc := 22) (k := 2) okX9 (by decide) tw_373 rfl dX4_lowestByTie_22 hv6 ?_
    refine rn_iload_n (pc := 25) 1 dX4_lowestByTie_25 rfl rfl ?_
    obtain ⟨v7, hv7, h7⟩ := bnd_some h6
    refine rn_iald (pc := 26) dX4_lowestByTie_26 hv7 ?_
    rcases if_elim h7 with ⟨c8, h8⟩ | ⟨c8, h8⟩
    · refine rn_zne_f (pc := 27) 52 dX4_lowestByTie_27 (by decide) c8 ?_
      refine rn_aload_n (pc := 30) 0 dX4_lowestByTie_30 rfl rfl ?_
      obtain ⟨v9, hv9, h9⟩ := bnd_some h8
      refine rn_getR (pc := 31) (k := 2) okX4 (by decide) tw_401 rfl dX4_lowestByTie_31 hv9 ?_
      obtain ⟨v10, hv10, h10⟩ := bnd_some h9
      refine rn_getR (pc := 34) (k := 1) okX9 (by decide) tw_371 rfl dX4_lowestByTie_34 hv10 ?_
      refine rn_iload_n (pc := 37) 1 dX4_lowestByTie_37 rfl rfl ?_
      obtain ⟨v11, hv11, h11⟩ := bnd_some h10
      refine rn_iald (pc := 38) dX4_lowestByTie_38 hv11 ?_
      refine rn_aload_n (pc := 39) 0 dX4_lowestByTie_39 rfl rfl ?_
      obtain ⟨v12, hv12, h12⟩ := bnd_some h11
      refine rn_getR (pc := 40) (k := 3) okX4 (by decide) tw_402 rfl dX4_lowestByTie_40 hv12 ?_
      refine rn_iload_n (pc := 43) 2 dX4_lowestByTie_43 rfl rfl ?_
      obtain ⟨v13, hv13, h13⟩ := bnd_some h12
      refine rn_iald (pc := 44) dX4_lowestByTie_44 hv13 ?_
      rcases if_elim h13 with ⟨c14, h14⟩ | ⟨c14, h14⟩
      · refine rn_ine_f (pc := 45) 52 dX4_lowestByTie_45 (by decide) c14 ?_
        refine rn_iconst (pc := 48) (v := 1) dX4_lowestByTie_48 (by decide) ?_
        refine rn_goto (pc := 49) (tgt := 53) dX4_lowestByTie_49 (by decide) ?_
        exact rn_sub [3] rfl (jtX4_lowestByTie_53 h14)
      · refine rn_ine_t (pc := 45) (tgt := 52) dX4_lowestByTie_45 (by decide) c14 ?_
        exact rn_sub [3] rfl (jtX4_lowestByTie_52 h14)
    · refine rn_zne_t (pc := 27) (tgt := 52) dX4_lowestByTie_27 (by decide) c8 ?_
      exact rn_sub [3] rfl (jtX4_lowestByTie_52 h8)
theorem eX4_lowestByTie {l : Launch} {G : Gt} {d : Nat} {t0 : Nat} {p1 : Int32} {p2 : Int32} {p3 : Int32} {u : Mem} {y : Int32} (h : fX4_lowestByTie t0 p1 p2 p3 u = some y) : Ex l G iX4_lowestByTie d [rv (some t0), .int p1, .int p2, .int p3] u (.returned (some (.int y))) u := Ex.of (by decide +kernel) (by decide) (Nat.le_of_ble_eq_true rfl) rfl (tX4_lowestByTie h)
theorem btX4_lowestFor_4 {l : Launch} {G : Gt} {d : Nat} {t0 : Nat} {i1 : Int32} {u : Mem} {s2 : Int32} {s3 : Int32} {y : (Int32 × Int32) ⊕ (Int32)} {o : Outcome} {u' : Mem} (h : bX4_lowestFor_4 t0 i1 u s2 s3 = some y) (k0 : ∀ s' : Int32 × Int32, y = .inl s' → Rn l G iX4_lowestFor (d + 1) 4 [(0, rv (some t0)), (1, .int i1), (2, .int s'.1), (3, .int s'.2)] [] u o u') (k1 : ∀ r : Int32, y = .inr (r) → Rn l G iX4_lowestFor (d + 1) 53 [(2, .int r)] [] u o u') : Rn l G iX4_lowestFor (d + 1) 4 [(0, rv (some t0)), (1, .int i1), (2, .int s2), (3, .int s3)] [] u o u' := by
  unfold bX4_lowestFor_4 at h
  refine rn_iload_n (pc := 4) 3 dX4_lowestFor_4 rfl rfl ?_
  refine rn_aload_n (pc := 5) 0 dX4_lowestFor_5 rfl rfl ?_
  obtain ⟨v1, hv1, h1⟩ := bnd_some h
  refine rn_getR (pc := 6) (k := 2) okX4 (by decide) tw_401 rfl dX4_lowestFor_6 hv1 ?_
  obtain ⟨v2, hv2, h2⟩ := bnd_some h1
  refine rn_getI (pc := 9) (k := 3) okX9 (by decide) tw_375 rfl dX4_lowestFor_9 hv2 ?_
  rcases if_elim h2 with ⟨c3, h3⟩ | ⟨c3, h3⟩
  · refine rn_ige_f (pc := 12) 53 dX4_lowestFor_12 (by decide) c3 ?_
    refine rn_aload_n (pc := 15) 0 dX4_lowestFor_15 rfl rfl ?_
    refine rn_iload_n (pc := 16) 1 dX4_lowestFor_16 rfl rfl ?_
    refine rn_iload_n (pc := 17) 3 dX4_lowestFor_17 rfl rfl ?_
    obtain ⟨b4, hb4, h4⟩ := bnd_some h3
    obtain ⟨qb4, kb4⟩ := chk_elim hb4
    cases qb4
    obtain ⟨v5, hv5, h5⟩ := bnd_some h4
    refine rn_callV (pc := 18) (n := 2) (As := [.int i1, .int s3]) (rest := []) (eX4_placeTiedTo (d := d + 0) hv5) (by omega) okX4 kb4 tw_909 tw_77 tw_907 tw_908 tw_28 (by decide +kernel) rfl (Nat.le_of_ble_eq_true rfl) dX4_lowestFor_18 rfl ?_
    refine rn_istore (pc := 21) (lv' := [(4, .int v5), (0, rv (some t0)), (1, .int i1), (2, .int s2), (3, .int s3)]) dX4_lowestFor_21 (by decide) rfl ?_
    refine rn_iload (pc := 23) 0 dX4_lowestFor_23 rfl ?_
    refine rn_iconst (pc := 25) (v := -1) dX4_lowestFor_25 (by decide) ?_
    rcases if_elim h5 with ⟨c6, h6⟩ | ⟨c6, h6⟩
    · refine rn_ieq_t (pc := 26) (tgt := 47) dX4_lowestFor_26 (by decide) c6 ?_
      obtain ⟨x7, ex7, h7⟩ := nm_elim h6
      refine rn_iinc (pc := 47) (v := x7) (lv' := [(3, .int x7), (4, .int v5), (0, rv (some t0)), (1, .int i1), (2, .int s2)]) 4 dX4_lowestFor_47 rfl (by rw [ex7]; rfl) (by decide) rfl ?_
      refine rn_goto (pc := 50) (tgt := 4) dX4_lowestFor_50 (by decide) ?_
      cases h7
      exact rn_sub [2, 3, 4, 0] rfl (k0 _ rfl)
    · refine rn_ieq_f (pc := 26) 47 dX4_lowestFor_26 (by decide) c6 ?_
      refine rn_iload_n (pc := 29) 3 dX4_lowestFor_29 rfl rfl ?_
      refine rn_aload_n (pc := 30) 1 dX4_lowestFor_30 rfl rfl ?_
      refine rn_iload_n (pc := 31) 4 dX4_lowestFor_31 rfl rfl ?_
      refine rn_iload_n (pc := 32) 2 dX4_lowestFor_32 rfl rfl ?_
      refine rn_aload_n (pc := 33) 1 dX4_lowestFor_33 rfl rfl ?_
      obtain ⟨v8, hv8, h8⟩ := bnd_some h6
      refine rn_getR (pc := 34) (k := 5) okX4 (by decide) tw_404 rfl dX4_lowestFor_34 hv8 ?_
      refine rn_iload (pc := 37) 0 dX4_lowestFor_37 rfl ?_
      obtain ⟨v9, hv9, h9⟩ := bnd_some h8
      refine rn_iald (pc := 39) dX4_lowestFor_39 hv9 ?_
      obtain ⟨b10, hb10, h10⟩ := bnd_some h9
      obtain ⟨qb10, kb10⟩ := chk_elim hb10
      cases qb10
      obtain ⟨v11, hv11, h11⟩ := bnd_some h10
      refine rn_callV (pc := 40) (n := 3) (As := [.int s3, .int i1, .int v9]) (rest := [.int s2]) (eX4_lowestByTie (d := d + 0) hv11) (by omega) okX4 kb10 tw_919 tw_77 tw_917 tw_918 tw_31 (by decide +kernel) rfl (Nat.le_of_ble_eq_true rfl) dX4_lowestFor_40 rfl ?_
      refine rn_mmax (pc := 43) (rest := []) (by omega) tw_920 (Nat.le_of_ble_eq_true rfl) dX4_lowestFor_43 ?_
      obtain ⟨x12, ex12, h12⟩ := nm_elim h11
      refine rn_topi ex12 ?_
      refine rn_istore_n (pc := 46) (lv' := [(2, .int x12), (4, .int v5), (0, rv (some t0)), (1, .int i1), (3, .int s3)]) dX4_lowestFor_46 rfl (by decide) rfl ?_
      obtain ⟨x13, ex13, h13⟩ := nm_elim h12
      refine rn_iinc (pc := 47) (v := x13) (lv' := [(3, .int x13), (2, .int x12), (4, .int v5), (0, rv (some t0)), (1, .int i1)]) 4 dX4_lowestFor_47 rfl (by rw [ex13]; rfl) (by decide) rfl ?_
      refine rn_goto (pc := 50) (tgt := 4) dX4_lowestFor_50 (by decide) ?_
      cases h13
      exact rn_sub [3, 4, 1, 0] rfl (k0 _ rfl)
  · refine rn_ige_t (pc := 12) (tgt := 53) dX4_lowestFor_12 (by decide) c3 ?_
    cases h3
    exact rn_sub [2] rfl (k1 _ rfl)
theorem lX4_lowestFor_4 {l : Launch} {G : Gt} {d : Nat} {t0 : Nat} {i1 : Int32} {u : Mem} {N : Nat} {s0 : Int32 × Int32} {r : Int32} {o : Outcome} {u' : Mem} (h : lp (fun s : Int32 × Int32 => bX4_lowestFor_4 t0 i1 u s.1 s.2) N s0 = some r) (k1 : Rn l G iX4_lowestFor (d + 1) 53 [(2, .int r)] [] u o u') : Rn l G iX4_lowestFor (d + 1) 4 [(0, rv (some t0)), (1, .int i1), (2, .int s0.1), (3, .int s0.2)] [] u o u' :=
  lp_run (P := fun s : Int32 × Int32 => Rn l G iX4_lowestFor (d + 1) 4 [(0, rv (some t0)), (1, .int i1), (2, .int s.1), (3, .int s.2)] [] u o u') (E := fun r => Rn l G iX4_lowestFor (d + 1) 53 [(2, .int r)] [] u o u') (fun s y hy k0 kE => btX4_lowestFor_4 hy (fun s' e => k0 s' e) (fun r e => kE r e)) N s0 r h k1
theorem tX4_lowestFor {l : Launch} {G : Gt} {d : Nat} {t0 : Nat} {p1 : Int32} {u : Mem} {y : Int32} (h : fX4_lowestFor t0 p1 u = some y) : Rn l G iX4_lowestFor (d + 1) 0 [(0, rv (some t0)), (1, .int p1)] [] u (.returned (some (.int y))) u := by
  unfold fX4_lowestFor at h
  refine rn_iconst (pc := 0) (v := 0) dX4_lowestFor_0 (by decide) ?_
  refine rn_istore_n (pc := 1) (lv' := [(2, .int (0 : Int32)), (0, rv (some t0)), (1, .int p1)]) dX4_lowestFor_1 rfl (by decide) rfl ?_
  refine rn_iconst (pc := 2) (v := 0) dX4_lowestFor_2 (by decide) ?_
  refine rn_istore_n (pc := 3) (lv' := [(3, .int (0 : Int32)), (2, .int (0 : Int32)), (0, rv (some t0)), (1, .int p1)]) dX4_lowestFor_3 rfl (by decide) rfl ?_
  obtain ⟨r14, hr14, h1⟩ := bnd_some h
  refine rn_sub [2, 3, 1, 0] rfl (lX4_lowestFor_4 hr14 ?_)
  refine rn_iload_n (pc := 53) 0 dX4_lowestFor_53 rfl rfl ?_
  cases h1
  exact rn_iret (pc := 54) rfl dX4_lowestFor_54
theorem eX4_lowestFor {l : Launch} {G : Gt} {d : Nat} {t0 : Nat} {p1 : Int32} {u : Mem} {y : Int32} (h : fX4_lowestFor t0 p1 u = some y) : Ex l G iX4_lowestFor (d + 1) [rv (some t0), .int p1] u (.returned (some (.int y))) u := Ex.of (by decide +kernel) (by decide) (Nat.le_of_ble_eq_true rfl) rfl (tX4_lowestFor h)
theorem btX4_tryTenths_50 {l : Launch} {G : Gt} {d : Nat} {F : Nat → Int32 → Int32 → Mem → Option (Mem)} {dF : Nat} (hF : ∀ (t0 : Nat) (p1 : Int32) (p2 : Int32) (u : Mem) (y : Mem), F t0 p1 p2 u = some y → Ex l G iX4_tryTenths dF [rv (some t0), .int p1, .int p2] u (.returned none) y) (hdF : dF + 1 ≤ d + 2) {t0 : Nat} {i1 : Int32} {i2 : Int32} {i3 : Int32} {s4 : Int32} {u : Mem} {y : (Int32 × Mem) ⊕ (Mem)} {o : Outcome} {u' : Mem} (h : bX4_tryTenths_50 F t0 i1 i2 i3 s4 u = some y) (k0 : ∀ s' : Int32 × Mem, y = .inl s' → Rn l G iX4_tryTenths (d + 2) 50 [(0, rv (some t0)), (1, .int i1), (2, .int i2), (3, .int i3), (4, .int s'.1)] [] s'.2 o u') (k1 : ∀ r : Mem, y = .inr (r) → Rn l G iX4_tryTenths (d + 2) 91 [] [] r o u') : Rn l G iX4_tryTenths (d + 2) 50 [(0, rv (some t0)), (1, .int i1), (2, .int i2), (3, .int i3), (4, .int s4)] [] u o u' := by
  unfold bX4_tryTenths_50 at h
  refine rn_iload (pc := 50) 4 dX4_tryTenths_50 rfl ?_
  refine rn_iload_n (pc := 52) 3 dX4_tryTenths_52 rfl rfl ?_
  rcases if_elim h with ⟨c9, h1⟩ | ⟨c9, h1⟩
  · refine rn_igt_t (pc := 53) (tgt := 91) dX4_tryTenths_53 (by decide) c9 ?_
    cases h1
    exact rn_sub [] rfl (k1 _ rfl)
  · refine rn_igt_f (pc := 53) 91 dX4_tryTenths_53 (by decide) c9 ?_
    refine rn_aload_n (pc := 56) 0 dX4_tryTenths_56 rfl rfl ?_
    obtain ⟨v10, hv10, h2⟩ := bnd_some h1
    refine rn_getR (pc := 57) (k := 5) okX4 (by decide) tw_404 rfl dX4_tryTenths_57 hv10 ?_
    refine rn_iload_n (pc := 60) 1 dX4_tryTenths_60 rfl rfl ?_
    refine rn_iload (pc := 61) 4 dX4_tryTenths_61 rfl ?_
    obtain ⟨u11, hu11, h3⟩ := bnd_some h2
    refine rn_iast (pc := 63) dX4_tryTenths_63 hu11 ?_
    refine rn_aload_n (pc := 64) 0 dX4_tryTenths_64 rfl rfl ?_
    refine rn_iload_n (pc := 65) 1 dX4_tryTenths_65 rfl rfl ?_
    refine rn_iconst (pc := 66) (v := 1) dX4_tryTenths_66 (by decide) ?_
    refine rn_iadd (pc := 67) dX4_tryTenths_67 ?_
    refine rn_iload_n (pc := 68) 2 dX4_tryTenths_68 rfl rfl ?_
    refine rn_iload (pc := 69) 4 dX4_tryTenths_69 rfl ?_
    refine rn_aload_n (pc := 71) 0 dX4_tryTenths_71 rfl rfl ?_
    obtain ⟨v12, hv12, h4⟩ := bnd_some h3
    refine rn_getR (pc := 72) (k := 4) okX4 (by decide) tw_403 rfl dX4_tryTenths_72 hv12 ?_
    refine rn_iload_n (pc := 75) 1 dX4_tryTenths_75 rfl rfl ?_
    obtain ⟨v13, hv13, h5⟩ := bnd_some h4
    refine rn_iald (pc := 76) dX4_tryTenths_76 hv13 ?_
    refine rn_isub (pc := 77) dX4_tryTenths_77 ?_
    refine rn_mabs (pc := 78) (rest := [.int i2, .int (i1 + (1 : Int32)), rv (some t0)]) (by omega) tw_897 (Nat.le_of_ble_eq_true rfl) dX4_tryTenths_78 ?_
    refine rn_iadd (pc := 81) dX4_tryTenths_81 ?_
    obtain ⟨b14, hb14, h6⟩ := bnd_some h5
    obtain ⟨qb14, kb14⟩ := chk_elim hb14
    cases qb14
    obtain ⟨u15, hu15, h7⟩ := bnd_some h6
    refine rn_callV (pc := 82) (n := 2) (As := [.int (i1 + (1 : Int32)), .int (i2 + (abI (s4 - v13)))]) (rest := []) (hF _ _ _ _ _ hu15) (by omega) okX4 kb14 tw_902 tw_77 tw_900 tw_901 tw_26 (by decide +kernel) rfl (Nat.le_of_ble_eq_true rfl) dX4_tryTenths_82 rfl ?_
    obtain ⟨x16, ex16, h8⟩ := nm_elim h7
    refine rn_iinc (pc := 85) (v := x16) (lv' := [(4, .int x16), (0, rv (some t0)), (1, .int i1), (2, .int i2), (3, .int i3)]) 4 dX4_tryTenths_85 rfl (by rw [ex16]; rfl) (by decide) rfl ?_
    refine rn_goto (pc := 88) (tgt := 50) dX4_tryTenths_88 (by decide) ?_
    cases h8
    exact rn_sub [1, 2, 3, 4, 0] rfl (k0 _ rfl)
theorem lX4_tryTenths_50 {l : Launch} {G : Gt} {d : Nat} {F : Nat → Int32 → Int32 → Mem → Option (Mem)} {dF : Nat} (hF : ∀ (t0 : Nat) (p1 : Int32) (p2 : Int32) (u : Mem) (y : Mem), F t0 p1 p2 u = some y → Ex l G iX4_tryTenths dF [rv (some t0), .int p1, .int p2] u (.returned none) y) (hdF : dF + 1 ≤ d + 2) {t0 : Nat} {i1 : Int32} {i2 : Int32} {i3 : Int32} {N : Nat} {s0 : Int32 × Mem} {r : Mem} {o : Outcome} {u' : Mem} (h : lp (fun s : Int32 × Mem => bX4_tryTenths_50 F t0 i1 i2 i3 s.1 s.2) N s0 = some r) (k1 : Rn l G iX4_tryTenths (d + 2) 91 [] [] r o u') : Rn l G iX4_tryTenths (d + 2) 50 [(0, rv (some t0)), (1, .int i1), (2, .int i2), (3, .int i3), (4, .int s0.1)] [] s0.2 o u' :=
  lp_run (P := fun s : Int32 × Mem => Rn l G iX4_tryTenths (d + 2) 50 [(0, rv (some t0)), (1, .int i1), (2, .int i2), (3, .int i3), (4, .int s.1)] [] s.2 o u') (E := fun r => Rn l G iX4_tryTenths (d + 2) 91 [] [] r o u') (fun s y hy k0 kE => btX4_tryTenths_50 hF hdF hy (fun s' e => k0 s' e) (fun r e => kE r e)) N s0 r h k1
theorem tX4_tryTenths {l : Launch} {G : Gt} {d : Nat} {F : Nat → Int32 → Int32 → Mem → Option (Mem)} {dF : Nat} (hF : ∀ (t0 : Nat) (p1 : Int32) (p2 : Int32) (u : Mem) (y : Mem), F t0 p1 p2 u = some y → Ex l G iX4_tryTenths dF [rv (some t0), .int p1, .int p2] u (.returned none) y) (hdF : dF + 1 ≤ d + 2) {t0 : Nat} {p1 : Int32} {p2 : Int32} {u : Mem} {y : Mem} (h : gX4_tryTenths F t0 p1 p2 u = some y) : Rn l G iX4_tryTenths (d + 2) 0 [(0, rv (some t0)), (1, .int p1), (2, .int p2)] [] u (.returned none) y := by
  unfold gX4_tryTenths at h
  refine rn_iload_n (pc := 0) 2 dX4_tryTenths_0 rfl rfl ?_
  refine rn_aload_n (pc := 1) 0 dX4_tryTenths_1 rfl rfl ?_
  obtain ⟨v1, hv1, h1⟩ := bnd_some h
  refine rn_getI (pc := 2) (k := 8) okX4 (by decide) tw_407 rfl dX4_tryTenths_2 hv1 ?_
  rcases if_elim h1 with ⟨c2, h2⟩ | ⟨c2, h2⟩
  · refine rn_ilt_t (pc := 5) (tgt := 9) dX4_tryTenths_5 (by decide) c2 ?_
    refine rn_iload_n (pc := 9) 1 dX4_tryTenths_9 rfl rfl ?_
    refine rn_aload_n (pc := 10) 0 dX4_tryTenths_10 rfl rfl ?_
    obtain ⟨v3, hv3, h3⟩ := bnd_some h2
    refine rn_getI (pc := 11) (k := 7) okX4 (by decide) tw_406 rfl dX4_tryTenths_11 hv3 ?_
    rcases if_elim h3 with ⟨c4, h4⟩ | ⟨c4, h4⟩
    · refine rn_ilt_t (pc := 14) (tgt := 37) dX4_tryTenths_14 (by decide) c4 ?_
      refine rn_aload_n (pc := 37) 0 dX4_tryTenths_37 rfl rfl ?_
      refine rn_iload_n (pc := 38) 1 dX4_tryTenths_38 rfl rfl ?_
      obtain ⟨b5, hb5, h5⟩ := bnd_some h4
      obtain ⟨qb5, kb5⟩ := chk_elim hb5
      cases qb5
      obtain ⟨v6, hv6, h6⟩ := bnd_some h5
      refine rn_callV (pc := 39) (n := 1) (As := [.int p1]) (rest := []) (eX4_highestFor (d := d + 0) hv6) (by omega) okX4 kb5 tw_906 tw_77 tw_904 tw_905 tw_27 (by decide +kernel) rfl (Nat.le_of_ble_eq_true rfl) dX4_tryTenths_39 rfl ?_
      refine rn_istore_n (pc := 42) (lv' := [(3, .int v6), (0, rv (some t0)), (1, .int p1), (2, .int p2)]) dX4_tryTenths_42 rfl (by decide) rfl ?_
      refine rn_aload_n (pc := 43) 1 dX4_tryTenths_43 rfl rfl ?_
      refine rn_iload_n (pc := 44) 2 dX4_tryTenths_44 rfl rfl ?_
      obtain ⟨b7, hb7, h7⟩ := bnd_some h6
      obtain ⟨qb7, kb7⟩ := chk_elim hb7
      cases qb7
      obtain ⟨v8, hv8, h8⟩ := bnd_some h7
      refine rn_callV (pc := 45) (n := 1) (As := [.int p1]) (rest := []) (eX4_lowestFor (d := d + 0) hv8) (by omega) okX4 kb7 tw_916 tw_77 tw_914 tw_915 tw_30 (by decide +kernel) rfl (Nat.le_of_ble_eq_true rfl) dX4_tryTenths_45 rfl ?_
      refine rn_istore (pc := 48) (lv' := [(4, .int v8), (3, .int v6), (0, rv (some t0)), (1, .int p1), (2, .int p2)]) dX4_tryTenths_48 (by decide) rfl ?_
      obtain ⟨r17, hr17, h9⟩ := bnd_some h8
      refine rn_sub [2, 3, 4, 1, 0] rfl (lX4_tryTenths_50 hF hdF hr17 ?_)
      cases h9
      exact rn_vret (pc := 91) rfl dX4_tryTenths_91
    · refine rn_ilt_f (pc := 14) 37 dX4_tryTenths_14 (by decide) c4 ?_
      refine rn_aload_n (pc := 17) 0 dX4_tryTenths_17 rfl rfl ?_
      refine rn_iload_n (pc := 18) 2 dX4_tryTenths_18 rfl rfl ?_
      obtain ⟨u18, hu18, h10⟩ := bnd_some h4
      refine rn_putI (pc := 19) (k := 8) okX4 (by decide) tw_407 (Or.inl rfl) (Or.inl rfl) dX4_tryTenths_19 hu18 ?_
      refine rn_aload_n (pc := 22) 0 dX4_tryTenths_22 rfl rfl ?_
      obtain ⟨v19, hv19, h11⟩ := bnd_some h10
      refine rn_getR (pc := 23) (k := 5) okX4 (by decide) tw_404 rfl dX4_tryTenths_23 hv19 ?_
      refine rn_iconst (pc := 26) (v := 0) dX4_tryTenths_26 (by decide) ?_
      refine rn_aload_n (pc := 27) 0 dX4_tryTenths_27 rfl rfl ?_
      obtain ⟨v20, hv20, h12⟩ := bnd_some h11
      refine rn_getR (pc := 28) (k := 6) okX4 (by decide) tw_405 rfl dX4_tryTenths_28 hv20 ?_
      refine rn_iconst (pc := 31) (v := 0) dX4_tryTenths_31 (by decide) ?_
      refine rn_iconst (pc := 32) (v := 4) dX4_tryTenths_32 (by decide) ?_
      obtain ⟨u21, hu21, h13⟩ := bnd_some h12
      refine rn_copy (pc := 33) (rest := []) (by omega) tw_903 (cat_le8 (Nat.le_of_ble_eq_true rfl)) dX4_tryTenths_33 hu21 ?_
      cases h13
      exact rn_vret (pc := 36) rfl dX4_tryTenths_36
  · refine rn_ilt_f (pc := 5) 9 dX4_tryTenths_5 (by decide) c2 ?_
    cases h2
    exact rn_vret (pc := 8) rfl dX4_tryTenths_8
theorem eX4_tryTenths {l : Launch} {G : Gt} : ∀ (n : Nat) (t0 : Nat) (p1 : Int32) (p2 : Int32) (u : Mem) (y : Mem), fX4_tryTenths n t0 p1 p2 u = some y → Ex l G iX4_tryTenths (n + 2) [rv (some t0), .int p1, .int p2] u (.returned none) y := by
  intro n
  induction n with
  | zero => intro t0 p1 p2 u y h; cases h
  | succ n ih =>
    intro t0 p1 p2 u y h
    exact Ex.of (by decide +kernel) (by decide) (Nat.le_of_ble_eq_true rfl) rfl (tX4_tryTenths (d := n + 1) (dF := n + 2) ih (by omega) h)
