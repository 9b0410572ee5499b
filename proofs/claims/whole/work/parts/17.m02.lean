abbrev iX12_expects : MI := (yX12_expects, cX12_expects, 3, (some .int))
def fX12_expects (t0 : Nat) (p1 : Int32) (p2 : Int32) (u : Mem) : Option (Int32) :=
  (gfR u (some t0) 12 10).bind fun v1 =>
  (alI u v1 20 p2).bind fun v2 =>
  (gfR u (some t0) 12 11).bind fun v3 =>
  (alI u v3 20 p2).bind fun v4 =>
  some ((p1 * v2) + (((10 : Int32) - p1) * v4))
abbrev iX12_paysFor : MI := (yX12_paysFor, cX12_paysFor, 4, (some .int))
def bX12_paysFor_4 (t0 : Nat) (i1 : Int32) (u : Mem) (s2 : Int32) (s3 : Int32) : Option ((Int32 × Int32) ⊕ (Int32)) :=
  if s3 < (11 : Int32) then
    (chk u (some t0) 12).bind fun b2 =>
    (fX12_expects t0 i1 s3 u).bind fun v3 =>
    (chk u (some t0) 12).bind fun b4 =>
    (fX12_expects t0 i1 s2 u).bind fun v5 =>
    if v3 < v5 then
      nm (s3 + 1 : Int32) fun x7 =>
      some (.inl (s3, x7))
    else
      nm (s3 + 1 : Int32) fun x8 =>
      some (.inl (s2, x8))
  else
    some (.inr s2)
def fX12_paysFor (t0 : Nat) (p1 : Int32) (u : Mem) : Option (Int32) :=
  (lp (fun s : Int32 × Int32 => bX12_paysFor_4 t0 p1 u s.1 s.2) FU ((0 : Int32), (1 : Int32))).bind fun r9 =>
  some r9
abbrev iX12_pays : MI := (yX12_pays, cX12_pays, 2, (some .int))
def fX12_pays (t0 : Nat) (p1 : Int32) (u : Mem) : Option (Int32) :=
  (fX12_in (Int32.toInt64 p1) (0 : Int64) (10 : Int64) u).bind fun v1 =>
  if v1 = 0 then
    some (-2 : Int32)
  else
    (chk u (some t0) 12).bind fun b3 =>
    (fX12_paysFor t0 p1 u).bind fun v4 =>
    some v4
abbrev iX12_honest : MI := (yX12_honest, cX12_honest, 3, (some .int))
def bX12_honest_10 (t0 : Nat) (i1 : Int32) (u : Mem) (s2 : Int32) : Option ((Int32) ⊕ ((Unit) ⊕ (Unit))) :=
  if s2 < (11 : Int32) then
    if s2 = i1 then
      nm (s2 + 1 : Int32) fun x4 =>
      some (.inl x4)
    else
      (chk u (some t0) 12).bind fun b5 =>
      (fX12_expects t0 i1 s2 u).bind fun v6 =>
      (chk u (some t0) 12).bind fun b7 =>
      (fX12_expects t0 i1 i1 u).bind fun v8 =>
      if v8 < v6 then
        nm (s2 + 1 : Int32) fun x10 =>
        some (.inl x10)
      else
        some (.inr (.inr ()))
  else
    some (.inr (.inl ()))
def bX12_honest_2 (t0 : Nat) (u : Mem) (s1 : Int32) : Option ((Int32) ⊕ ((Unit) ⊕ (Int32))) :=
  if s1 < (11 : Int32) then
    (lp (fun s : Int32 => bX12_honest_10 t0 s1 u s) FU (0 : Int32)).bind fun r11 =>
    sumE r11 (fun r12 =>
      nm (s1 + 1 : Int32) fun x14 =>
      some (.inl x14)) (fun r13 =>
      some (.inr (.inr s1)))
  else
    some (.inr (.inl ()))
def fX12_honest (t0 : Nat) (u : Mem) : Option (Int32) :=
  (lp (fun s : Int32 => bX12_honest_2 t0 u s) FU (0 : Int32)).bind fun r15 =>
  sumE r15 (fun r16 =>
    some (-1 : Int32)) (fun r17 =>
    some r17)
abbrev iX12_copies : MI := (yX12_copies, cX12_copies, 3, (some .int))
def fX12_copies (t0 : Nat) (p1 : Int32) (p2 : Int32) (u : Mem) : Option (Int32 × Mem) :=
  (fX12_isGuesser p1 u).bind fun v1 =>
  if v1 = 0 then
    some ((-2 : Int32), u)
  else
    (fX12_isGuesser p2 u).bind fun v3 =>
    if v3 = 0 then
      some ((-2 : Int32), u)
    else
      if p1 = p2 then
        some ((-2 : Int32), u)
      else
        (gfI u (some t0) 12 2).bind fun v6 =>
        if v6 = (-1 : Int32) then
          some ((-4 : Int32), u)
        else
          (chk u (some t0) 12).bind fun b8 =>
          (fX12_findCopies t0 u).bind fun u9 =>
          (chk u9 (some t0) 12).bind fun b10 =>
          (fX12_copiesOf t0 p1 p2 (999 : Int32) u9).bind fun v11 =>
          some (v11, u9)
abbrev iX12_weightOn : MI := (yX12_weightOn, cX12_weightOn, 6, (some .int))
def bX12_weightOn_17 (t0 : Nat) (i1 : Int32) (i2 : Int32) (u : Mem) (s3 : Int32) (s4 : Int32) (s5 : Int32) : Option ((Int32 × Int32 × Int32) ⊕ (Int32 × Int32)) :=
  (gfI u (some t0) 12 25).bind fun v3 =>
  if s5 < v3 then
    (chk u (some t0) 12).bind fun b5 =>
    (fX12_counts t0 i1 s5 u).bind fun v6 =>
    if v6 = 0 then
      nm (s5 + 1 : Int32) fun x8 =>
      some (.inl (s3, s4, x8))
    else
      (gfR u (some t0) 12 31).bind fun v9 =>
      (alI u v9 20 s5).bind fun v10 =>
      if v10 < i2 then
        (gfR u (some t0) 12 42).bind fun v12 =>
        (fX12_pair i1 s5 u).bind fun v13 =>
        (alI u v12 20 v13).bind fun v14 =>
        nm (s3 + v14 : Int32) fun x15 =>
        (gfR u (some t0) 12 41).bind fun v16 =>
        (fX12_pair i1 s5 u).bind fun v17 =>
        (alI u v16 20 v17).bind fun v18 =>
        nm (s4 + v18 : Int32) fun x19 =>
        nm (s5 + 1 : Int32) fun x20 =>
        some (.inl (x15, x19, x20))
      else
        nm (s5 + 1 : Int32) fun x21 =>
        some (.inl (s3, s4, x21))
  else
    some (.inr (s3, s4))
def fX12_weightOn (t0 : Nat) (p1 : Int32) (p2 : Int32) (u : Mem) : Option (Int32) :=
  (gfI u (some t0) 12 1).bind fun v1 =>
  if v1 = 0 then
    some (1 : Int32)
  else
    (lp (fun s : Int32 × Int32 × Int32 => bX12_weightOn_17 t0 p1 p2 u s.1 s.2.1 s.2.2) FU ((0 : Int32), (0 : Int32), (0 : Int32))).bind fun r22 =>
    if r22.1 = 0 then
      some (1 : Int32)
    else
      if r22.1 < r22.2 then
        some (1 : Int32)
      else
        (nz64 (Int32.toInt64 r22.1)).bind fun z25 =>
        some ((1 : Int32) + (Int64.toInt32 (((100 : Int64) * (Int32.toInt64 (r22.1 - r22.2))) / (Int32.toInt64 r22.1))))
abbrev iX12_weight : MI := (yX12_weight, cX12_weight, 3, (some .int))
def fX12_weight (t0 : Nat) (p1 : Int32) (p2 : Int32) (u : Mem) : Option (Int32 × Mem) :=
  (fX12_isGuesser p1 u).bind fun v1 =>
  if v1 = 0 then
    some ((-2 : Int32), u)
  else
    (fX12_isDay p2 u).bind fun v3 =>
    if v3 = 0 then
      some ((-2 : Int32), u)
    else
      (chk u (some t0) 12).bind fun b5 =>
      (fX12_prepare t0 u).bind fun u6 =>
      (chk u6 (some t0) 12).bind fun b7 =>
      (fX12_weightOn t0 p1 p2 u6).bind fun v8 =>
      some (v8, u6)
abbrev iX12_isCopier : MI := (yX12_isCopier, cX12_isCopier, 5, (some .boolean))
def bX12_isCopier_13 (t0 : Nat) (i1 : Int32) (i2 : Int32) (i3 : Int32) (u : Mem) (s4 : Int32) : Option ((Int32) ⊕ ((Unit) ⊕ (Unit))) :=
  if s4 < (20 : Int32) then
    if s4 = i1 then
      nm (s4 + 1 : Int32) fun x5 =>
      some (.inl x5)
    else
      (chk u (some t0) 12).bind fun b6 =>
      (fX12_heldAt t0 s4 i2 i3 u).bind fun v7 =>
      if v7 = (-1 : Int32) then
        nm (s4 + 1 : Int32) fun x9 =>
        some (.inl x9)
      else
        (chk u (some t0) 12).bind fun b10 =>
        (fX12_copiesOf t0 i1 s4 i3 u).bind fun v11 =>
        (gfI u (some t0) 12 3).bind fun v12 =>
        if v11 < v12 then
          nm (s4 + 1 : Int32) fun x14 =>
          some (.inl x14)
        else
          some (.inr (.inr ()))
  else
    some (.inr (.inl ()))
def fX12_isCopier (t0 : Nat) (p1 : Int32) (p2 : Int32) (p3 : Int32) (u : Mem) : Option (Int32) :=
  (gfI u (some t0) 12 2).bind fun v1 =>
  if v1 = (-1 : Int32) then
    some (0 : Int32)
  else
    (lp (fun s : Int32 => bX12_isCopier_13 t0 p1 p2 p3 u s) FU (0 : Int32)).bind fun r15 =>
    sumE r15 (fun r16 =>
      some (0 : Int32)) (fun r17 =>
      some (1 : Int32))
abbrev iX12_joinedOn : MI := (yX12_joinedOn, cX12_joinedOn, 7, (some .int))
def bX12_joinedOn_5 (t0 : Nat) (i1 : Int32) (i2 : Int32) (i3 : Int32) (s4 : Int32) (u : Mem) : Option ((Int32 × Mem) ⊕ (Mem)) :=
  if s4 < (11 : Int32) then
    (gfR u (some t0) 12 49).bind fun v2 =>
    (asI u v2 20 s4 (0 : Int32)).bind fun u3 =>
    nm (s4 + 1 : Int32) fun x4 =>
    some (.inl (x4, u3))
  else
    some (.inr u)
def bX12_joinedOn_29 (t0 : Nat) (i1 : Int32) (i2 : Int32) (s3 : Int32) (s4 : Int32) (u : Mem) : Option ((Int32 × Int32 × Mem) ⊕ (Int32 × Mem)) :=
  if s4 < (20 : Int32) then
    (chk u (some t0) 12).bind fun b7 =>
    (fX12_heldAt t0 s4 i1 i2 u).bind fun v8 =>
    if v8 = (-1 : Int32) then
      nm (s4 + 1 : Int32) fun x10 =>
      some (.inl (s3, x10, u))
    else
      (chk u (some t0) 12).bind fun b11 =>
      (fX12_isCopier t0 s4 i1 i2 u).bind fun v12 =>
      if v12 = 0 then
        (chk u (some t0) 12).bind fun b14 =>
        (fX12_weightOn t0 s4 i2 u).bind fun v15 =>
        (gfR u (some t0) 12 49).bind fun v16 =>
        (alI u v16 20 v8).bind fun v17 =>
        (asI u v16 20 v8 ((v17 + v15))).bind fun u18 =>
        nm (s3 + v15 : Int32) fun x19 =>
        nm (s4 + 1 : Int32) fun x20 =>
        some (.inl (x19, x20, u18))
      else
        nm (s4 + 1 : Int32) fun x21 =>
        some (.inl (s3, x21, u))
  else
    some (.inr (s3, u))
def bX12_joinedOn_115 (t0 : Nat) (i3 : Int32) (u : Mem) (s4 : Int32) (s5 : Int32) : Option ((Int32 × Int32) ⊕ (Int32)) :=
  if ((2 : Int32) * s5) < i3 then
    nm (s4 + 1 : Int32) fun x27 =>
    (gfR u (some t0) 12 49).bind fun v28 =>
    (alI u v28 20 x27).bind fun v29 =>
    nm (s5 + v29 : Int32) fun x30 =>
    some (.inl (x27, x30))
  else
    some (.inr s4)
def fX12_joinedOn (t0 : Nat) (p1 : Int32) (p2 : Int32) (u : Mem) : Option (Int32 × Mem) :=
  (lp (fun s : Int32 × Mem => bX12_joinedOn_5 t0 p1 p2 (0 : Int32) s.1 s.2) FU ((0 : Int32), u)).bind fun r5 =>
  (lp (fun s : Int32 × Int32 × Mem => bX12_joinedOn_29 t0 p1 p2 s.1 s.2.1 s.2.2) FU ((0 : Int32), (0 : Int32), r5)).bind fun r22 =>
  if r22.1 = 0 then
    some ((-1 : Int32), r22.2)
  else
    (gfR r22.2 (some t0) 12 49).bind fun v24 =>
    (alI r22.2 v24 20 (0 : Int32)).bind fun v25 =>
    (lp (fun s : Int32 × Int32 => bX12_joinedOn_115 t0 r22.1 r22.2 s.1 s.2) FU ((0 : Int32), v25)).bind fun r31 =>
    some (r31, r22.2)
abbrev iX12_ready : MI := (yX12_ready, cX12_ready, 1, (Option.none : Option FieldType))
def fX12_ready (t0 : Nat) (u : Mem) : Option (Mem) :=
  (chk u (some t0) 12).bind fun b1 =>
  (fX12_prepare t0 u).bind fun u2 =>
  (gfI u2 (some t0) 12 2).bind fun v3 =>
  if v3 = (-1 : Int32) then
    some u2
  else
    (chk u2 (some t0) 12).bind fun b5 =>
    (fX12_findCopies t0 u2).bind fun u6 =>
    some u6
abbrev iX12_joined : MI := (yX12_joined, cX12_joined, 3, (some .int))
def fX12_joined (t0 : Nat) (p1 : Int32) (p2 : Int32) (u : Mem) : Option (Int32 × Mem) :=
  (chk u (some t0) 12).bind fun b1 =>
  (fX12_isQuestion t0 p1 u).bind fun v2 =>
  if v2 = 0 then
    some ((-2 : Int32), u)
  else
    (fX12_isDay p2 u).bind fun v4 =>
    if v4 = 0 then
      some ((-2 : Int32), u)
    else
      (chk u (some t0) 12).bind fun b6 =>
      (fX12_ready t0 u).bind fun u7 =>
      (chk u7 (some t0) 12).bind fun b8 =>
      bnd2 (fX12_joinedOn t0 p1 p2 u7) fun v9 u10 =>
      some (v9, u10)
abbrev iX12_together : MI := (yX12_together, cX12_together, 7, (some .int))
def bX12_together_48 (t0 : Nat) (i1 : Int32) (i2 : Int32) (s3 : Int32) (s4 : Int32) (s5 : Int32) (u : Mem) : Option ((Int32 × Int32 × Int32 × Mem) ⊕ (Int32 × Int32 × Mem)) :=
  (chk u (some t0) 12).bind fun b13 =>
  (fX12_lastDay t0 i1 u).bind fun v14 =>
  if v14 < s5 then
    some (.inr (s3, s4, u))
  else
    (chk u (some t0) 12).bind fun b16 =>
    bnd2 (fX12_joinedOn t0 i1 s5 u) fun v17 u18 =>
    if v17 = (-1 : Int32) then
      nm (s5 + 1 : Int32) fun x20 =>
      some (.inl (s3, s4, x20, u18))
    else
      nm (s3 + 1 : Int32) fun x21 =>
      (chk u18 (some t0) 12).bind fun b22 =>
      (fX12_cost t0 i1 v17 u18).bind fun v23 =>
      nm (s4 + v23 : Int32) fun x24 =>
      nm (s5 + 1 : Int32) fun x25 =>
      some (.inl (x21, x24, x25, u18))
def fX12_together (t0 : Nat) (p1 : Int32) (p2 : Int32) (u : Mem) : Option (Int32 × Mem) :=
  (chk u (some t0) 12).bind fun b1 =>
  (fX12_isQuestion t0 p1 u).bind fun v2 =>
  if v2 = 0 then
    some ((-2 : Int32), u)
  else
    (fX12_in (Int32.toInt64 p2) (0 : Int64) (1 : Int64) u).bind fun v4 =>
    if v4 = 0 then
      some ((-2 : Int32), u)
    else
      (chk u (some t0) 12).bind fun b6 =>
      (fX12_isKnown t0 p1 u).bind fun v7 =>
      if v7 = 0 then
        some ((0 : Int32), u)
      else
        (chk u (some t0) 12).bind fun b9 =>
        (fX12_ready t0 u).bind fun u10 =>
        (gfR u10 (some t0) 12 28).bind fun v11 =>
        (alI u10 v11 20 p1).bind fun v12 =>
        (lp (fun s : Int32 × Int32 × Int32 × Mem => bX12_together_48 t0 p1 p2 s.1 s.2.1 s.2.2.1 s.2.2.2) FU ((0 : Int32), (0 : Int32), v12, u10)).bind fun r26 =>
        if p2 = 0 then
          some (r26.1, r26.2.2)
        else
          some (r26.2.1, r26.2.2)
abbrev iX12_atLeast : MI := (yX12_atLeast, cX12_atLeast, 6, (some .long))
def bX12_atLeast_2 (t0 : Nat) (i1 : Int32) (i2 : Int32) (s3 : Int32) (u : Mem) : Option ((Int32 × Mem) ⊕ (Mem)) :=
  if i1 < s3 then
    some (.inr u)
  else
    (gfR u (some t0) 12 50).bind fun v2 =>
    if s3 = 0 then
      (asL u v2 23 s3 (1 : Int64)).bind fun u4 =>
      nm (s3 + 1 : Int32) fun x5 =>
      some (.inl (x5, u4))
    else
      (asL u v2 23 s3 (0 : Int64)).bind fun u6 =>
      nm (s3 + 1 : Int32) fun x7 =>
      some (.inl (x7, u6))
def bX12_atLeast_38 (t0 : Nat) (i1 : Int32) (i2 : Int32) (i3 : Int32) (s4 : Int32) (u : Mem) : Option ((Int32 × Mem) ⊕ (Mem)) :=
  if 0 < s4 then
    (gfR u (some t0) 12 50).bind fun v11 =>
    (alL u v11 23 s4).bind fun v12 =>
    (gfR u (some t0) 12 50).bind fun v13 =>
    (alL u v13 23 (s4 - (1 : Int32))).bind fun v14 =>
    (asL u v11 23 s4 (v12 + v14)).bind fun u15 =>
    nm (s4 + (-1) : Int32) fun x16 =>
    some (.inl (x16, u15))
  else
    some (.inr u)
def bX12_atLeast_30 (t0 : Nat) (i1 : Int32) (i2 : Int32) (s3 : Int32) (u : Mem) : Option ((Int32 × Mem) ⊕ (Mem)) :=
  if s3 < i1 then
    (lp (fun s : Int32 × Mem => bX12_atLeast_38 t0 i1 i2 s3 s.1 s.2) FU (i1, u)).bind fun r17 =>
    nm (s3 + 1 : Int32) fun x18 =>
    some (.inl (x18, r17))
  else
    some (.inr u)
def bX12_atLeast_79 (t0 : Nat) (i1 : Int32) (u : Mem) (s3 : Int64) (s5 : Int32) : Option ((Int64 × Int32) ⊕ (Int64)) :=
  if i1 < s5 then
    some (.inr s3)
  else
    (gfR u (some t0) 12 50).bind fun v21 =>
    (alL u v21 23 s5).bind fun v22 =>
    nm (s3 + v22 : Int64) fun x23 =>
    nm (s5 + 1 : Int32) fun x24 =>
    some (.inl (x23, x24))
def fX12_atLeast (t0 : Nat) (p1 : Int32) (p2 : Int32) (u : Mem) : Option (Int64 × Mem) :=
  (lp (fun s : Int32 × Mem => bX12_atLeast_2 t0 p1 p2 s.1 s.2) FU ((0 : Int32), u)).bind fun r8 =>
  (lp (fun s : Int32 × Mem => bX12_atLeast_30 t0 p1 p2 s.1 s.2) FU ((0 : Int32), r8)).bind fun r19 =>
  (lp (fun s : Int64 × Int32 => bX12_atLeast_79 t0 p1 r19 s.1 s.2) FU ((0 : Int64), p2)).bind fun r25 =>
  some (r25, r19)
abbrev iX12_luck : MI := (yX12_luck, cX12_luck, 11, (some .long))
def jX12_luck_72_112 (t0 : Nat) (i1 : Int32) (i2 : Int32) (i3 : Int32) (i4 : Int32) (i5 : Int32) (p6 : Int32) (p7 : Int32) (p8 : Int32) (p9 : Int32) (w0 : Int32) (u : Mem) : Option ((Int32 × Int32 × Int32 × Mem) ⊕ (Int32 × Int32 × Mem)) :=
  if w0 = (-1 : Int32) then
    nm (p8 + 1 : Int32) fun x22 =>
    some (.inl (p6, p7, x22, u))
  else
    nm (p6 + p9 : Int32) fun x23 =>
    (chk u (some t0) 12).bind fun b24 =>
    (fX12_cost t0 i5 w0 u).bind fun v25 =>
    nm (p7 + v25 : Int32) fun x26 =>
    nm (p8 + 1 : Int32) fun x27 =>
    some (.inl (x23, x26, x27, u))
def bX12_luck_72 (t0 : Nat) (i1 : Int32) (i2 : Int32) (i3 : Int32) (i4 : Int32) (i5 : Int32) (s6 : Int32) (s7 : Int32) (s8 : Int32) (u : Mem) : Option ((Int32 × Int32 × Int32 × Mem) ⊕ (Int32 × Int32 × Mem)) :=
  (chk u (some t0) 12).bind fun b15 =>
  (fX12_lastDay t0 i5 u).bind fun v16 =>
  if v16 < s8 then
    some (.inr (s6, s7, u))
  else
    (chk u (some t0) 12).bind fun b18 =>
    (fX12_rowOn t0 i1 i5 s8 u).bind fun v19 =>
    if v19 = (-1 : Int32) then
      jX12_luck_72_112 t0 i1 i2 i3 i4 i5 s6 s7 s8 v19 (-1 : Int32) u
    else
      (chk u (some t0) 12).bind fun b28 =>
      bnd2 (fX12_joinedOn t0 i5 s8 u) fun v29 u30 =>
      jX12_luck_72_112 t0 i1 i2 i3 i4 i5 s6 s7 s8 v19 v29 u30
def jX12_luck_35_162 (t0 : Nat) (i1 : Int32) (i2 : Int32) (p4 : Int32) (p5 : Int32) (p6 : Int32) (p7 : Int32) (w0 : Int32) (w1 : Int32) (u : Mem) : Option ((Int32 × Int32 × Int32 × Mem) ⊕ (Int32 × Int32 × Mem)) :=
  nm (w1 + w0 : Int32) fun x33 =>
  if p6 < p7 then
    nm (p4 + (1 : Int32) : Int32) fun x35 =>
    nm (p5 + 1 : Int32) fun x36 =>
    some (.inl (x33, x35, x36, u))
  else
    nm (p4 + (0 : Int32) : Int32) fun x37 =>
    nm (p5 + 1 : Int32) fun x38 =>
    some (.inl (x33, x37, x38, u))
def bX12_luck_35 (t0 : Nat) (i1 : Int32) (i2 : Int32) (s3 : Int32) (s4 : Int32) (s5 : Int32) (u : Mem) : Option ((Int32 × Int32 × Int32 × Mem) ⊕ (Int32 × Int32 × Mem)) :=
  (gfI u (some t0) 12 25).bind fun v7 =>
  if s5 < v7 then
    (chk u (some t0) 12).bind fun b9 =>
    (fX12_counts t0 i1 s5 u).bind fun v10 =>
    if v10 = 0 then
      nm (s5 + 1 : Int32) fun x12 =>
      some (.inl (s3, s4, x12, u))
    else
      (gfR u (some t0) 12 28).bind fun v13 =>
      (alI u v13 20 s5).bind fun v14 =>
      (lp (fun s : Int32 × Int32 × Int32 × Mem => bX12_luck_72 t0 i1 i2 s3 s4 s5 s.1 s.2.1 s.2.2.1 s.2.2.2) FU ((0 : Int32), (0 : Int32), v14, u)).bind fun r31 =>
      if r31.1 = r31.2.1 then
        jX12_luck_35_162 t0 i1 i2 s4 s5 r31.1 r31.2.1 (0 : Int32) s3 r31.2.2
      else
        jX12_luck_35_162 t0 i1 i2 s4 s5 r31.1 r31.2.1 (1 : Int32) s3 r31.2.2
  else
    some (.inr (s3, s4, u))
def fX12_luck (t0 : Nat) (p1 : Int32) (p2 : Int32) (u : Mem) : Option (Int64 × Mem) :=
  (fX12_isGuesser p1 u).bind fun v1 =>
  if v1 = 0 then
    some ((-2 : Int64), u)
  else
    (fX12_in (Int32.toInt64 p2) (0 : Int64) (2 : Int64) u).bind fun v3 =>
    if v3 = 0 then
      some ((-2 : Int64), u)
    else
      (chk u (some t0) 12).bind fun b5 =>
      (fX12_ready t0 u).bind fun u6 =>
      (lp (fun s : Int32 × Int32 × Int32 × Mem => bX12_luck_35 t0 p1 p2 s.1 s.2.1 s.2.2.1 s.2.2.2) FU ((0 : Int32), (0 : Int32), (0 : Int32), u6)).bind fun r39 =>
      if p2 = 0 then
        some (Int32.toInt64 r39.1, r39.2.2)
      else
        if p2 = (1 : Int32) then
          some (Int32.toInt64 r39.2.1, r39.2.2)
        else
          (chk r39.2.2 (some t0) 12).bind fun b42 =>
          bnd2 (fX12_atLeast t0 r39.1 r39.2.1 r39.2.2) fun v43 u44 =>
          some (v43, u44)
abbrev iX12_tie : MI := (yX12_tie, cX12_tie, 4, (some .int))
def fX12_tie (t0 : Nat) (p1 : Int32) (p2 : Int32) (p3 : Int32) (u : Mem) : Option (Int32 × Mem) :=
  (chk u (some t0) 12).bind fun b1 =>
  (fX12_isQuestion t0 p1 u).bind fun v2 =>
  if v2 = 0 then
    some ((-2 : Int32), u)
  else
    (chk u (some t0) 12).bind fun b4 =>
    (fX12_isQuestion t0 p2 u).bind fun v5 =>
    if v5 = 0 then
      some ((-2 : Int32), u)
    else
      if p1 = p2 then
        some ((-2 : Int32), u)
      else
        (fX12_in (Int32.toInt64 p3) (0 : Int64) (2 : Int64) u).bind fun v8 =>
        if v8 = 0 then
          some ((-2 : Int32), u)
        else
          (gfI u (some t0) 12 27).bind fun v10 =>
          if v10 = (30 : Int32) then
            some ((-3 : Int32), u)
          else
            (gfR u (some t0) 12 36).bind fun v12 =>
            (gfI u (some t0) 12 27).bind fun v13 =>
            (asI u v12 20 v13 p1).bind fun u14 =>
            (gfR u14 (some t0) 12 37).bind fun v15 =>
            (gfI u14 (some t0) 12 27).bind fun v16 =>
            (asI u14 v15 20 v16 p2).bind fun u17 =>
            (gfR u17 (some t0) 12 38).bind fun v18 =>
            (gfI u17 (some t0) 12 27).bind fun v19 =>
            (asI u17 v18 20 v19 p3).bind fun u20 =>
            (gfI u20 (some t0) 12 27).bind fun v21 =>
            (pfI u20 (some t0) 12 27 (v21 + (1 : Int32))).bind fun u22 =>
            (gfI u22 (some t0) 12 27).bind fun v23 =>
            some (v23 - (1 : Int32), u22)
abbrev iX12_isBroken : MI := (yX12_isBroken, cX12_isBroken, 4, (some .boolean))
def fX12_isBroken (t0 : Nat) (p1 : Int32) (p2 : Int32) (p3 : Int32) (u : Mem) : Option (Int32) :=
  (gfR u (some t0) 12 38).bind fun v1 =>
  (alI u v1 20 p1).bind fun v2 =>
  if v2 = 0 then
    if p3 < p2 then
      some (1 : Int32)
    else
      some (0 : Int32)
  else
    (gfR u (some t0) 12 38).bind fun v5 =>
    (alI u v5 20 p1).bind fun v6 =>
    if v6 = (1 : Int32) then
      if (10 : Int32) < (p2 + p3) then
        some (1 : Int32)
      else
        some (0 : Int32)
    else
      if (p2 + p3) < (10 : Int32) then
        some (1 : Int32)
      else
        some (0 : Int32)
abbrev iX12_pumps : MI := (yX12_pumps, cX12_pumps, 7, (some .int))
def bX12_pumps_22 (t0 : Nat) (i1 : Int32) (i2 : Int32) (u : Mem) (s3 : Int32) (s4 : Int32) : Option ((Int32 × Int32) ⊕ (Int32)) :=
  (gfI u (some t0) 12 27).bind fun v5 =>
  if s4 < v5 then
    (gfR u (some t0) 12 36).bind fun v7 =>
    (alI u v7 20 s4).bind fun v8 =>
    (chk u (some t0) 12).bind fun b9 =>
    (fX12_heldOn t0 i1 v8 i2 u).bind fun v10 =>
    (gfR u (some t0) 12 37).bind fun v11 =>
    (alI u v11 20 s4).bind fun v12 =>
    (chk u (some t0) 12).bind fun b13 =>
    (fX12_heldOn t0 i1 v12 i2 u).bind fun v14 =>
    if v10 = (-1 : Int32) then
      nm (s4 + 1 : Int32) fun x16 =>
      some (.inl (s3, x16))
    else
      if v14 = (-1 : Int32) then
        nm (s4 + 1 : Int32) fun x18 =>
        some (.inl (s3, x18))
      else
        (chk u (some t0) 12).bind fun b19 =>
        (fX12_isBroken t0 s4 v10 v14 u).bind fun v20 =>
        if v20 = 0 then
          nm (s4 + 1 : Int32) fun x22 =>
          some (.inl (s3, x22))
        else
          nm (s3 ||| ((1 : Int32) <<< (s4 &&& 31)) : Int32) fun x23 =>
          nm (s4 + 1 : Int32) fun x24 =>
          some (.inl (x23, x24))
  else
    some (.inr s3)
def fX12_pumps (t0 : Nat) (p1 : Int32) (p2 : Int32) (u : Mem) : Option (Int32) :=
  (fX12_isGuesser p1 u).bind fun v1 =>
  if v1 = 0 then
    some (-2 : Int32)
  else
    (fX12_isDay p2 u).bind fun v3 =>
    if v3 = 0 then
      some (-2 : Int32)
    else
      (lp (fun s : Int32 × Int32 => bX12_pumps_22 t0 p1 p2 u s.1 s.2) FU ((0 : Int32), (0 : Int32))).bind fun r25 =>
      some r25
abbrev iX12_mayBe : MI := (yX12_mayBe, cX12_mayBe, 6, (some .boolean))
def bX12_mayBe_2 (t0 : Nat) (i1 : Int32) (i2 : Int32) (u : Mem) (s3 : Int32) : Option ((Int32) ⊕ ((Unit) ⊕ (Unit))) :=
  (gfI u (some t0) 12 27).bind fun v1 =>
  if s3 < v1 then
    (gfR u (some t0) 12 36).bind fun v3 =>
    (alI u v3 20 s3).bind fun v4 =>
    (gfR u (some t0) 12 37).bind fun v5 =>
    (alI u v5 20 s3).bind fun v6 =>
    if (mxI v4 v6) = i2 then
      if ((i1 >>> ((mnI v4 v6) &&& 31)) &&& (1 : Int32)) = 0 then
        nm (s3 + 1 : Int32) fun x9 =>
        some (.inl x9)
      else
        (gfR u (some t0) 12 52).bind fun v10 =>
        (alI u v10 20 v4).bind fun v11 =>
        (gfR u (some t0) 12 52).bind fun v12 =>
        (alI u v12 20 v6).bind fun v13 =>
        (chk u (some t0) 12).bind fun b14 =>
        (fX12_isBroken t0 s3 v11 v13 u).bind fun v15 =>
        if v15 = 0 then
          nm (s3 + 1 : Int32) fun x17 =>
          some (.inl x17)
        else
          some (.inr (.inr ()))
    else
      nm (s3 + 1 : Int32) fun x18 =>
      some (.inl x18)
  else
    some (.inr (.inl ()))
def fX12_mayBe (t0 : Nat) (p1 : Int32) (p2 : Int32) (u : Mem) : Option (Int32) :=
  (lp (fun s : Int32 => bX12_mayBe_2 t0 p1 p2 u s) FU (0 : Int32)).bind fun r19 =>
  sumE r19 (fun r20 =>
    some (1 : Int32)) (fun r21 =>
    some (0 : Int32))
abbrev iX12_mendFrom : MI := (yX12_mendFrom, cX12_mendFrom, 5, (Option.none : Option FieldType))
def bX12_mendFrom_25 (F : Nat → Int32 → Int32 → Int32 → Mem → Option (Mem)) (t0 : Nat) (s4 : Int32) (u : Mem) : Option ((Int32 × Mem) ⊕ (Mem)) :=
  (gfI u (some t0) 12 25).bind fun v6 =>
  if s4 < v6 then
    (gfR u (some t0) 12 54).bind fun v8 =>
    (gfR u (some t0) 12 52).bind fun v9 =>
    (alI u v9 20 s4).bind fun v10 =>
    (asI u v8 20 s4 v10).bind fun u11 =>
    nm (s4 + 1 : Int32) fun x12 =>
    some (.inl (x12, u11))
  else
    some (.inr u)
def bX12_mendFrom_76 (F : Nat → Int32 → Int32 → Int32 → Mem → Option (Mem)) (t0 : Nat) (i1 : Int32) (i2 : Int32) (i3 : Int32) (s4 : Int32) (u : Mem) : Option ((Int32 × Mem) ⊕ (Mem)) :=
  if s4 < (11 : Int32) then
    (gfR u (some t0) 12 52).bind fun v18 =>
    (asI u v18 20 i2 s4).bind fun u19 =>
    (chk u19 (some t0) 12).bind fun b20 =>
    (fX12_mayBe t0 i1 i2 u19).bind fun v21 =>
    if v21 = 0 then
      nm (s4 + 1 : Int32) fun x23 =>
      some (.inl (x23, u19))
    else
      (gfR u19 (some t0) 12 53).bind fun v24 =>
      (alI u19 v24 20 i2).bind fun v25 =>
      (chk u19 (some t0) 12).bind fun b26 =>
      (F t0 i1 (i2 + (1 : Int32)) (i3 + (abI (s4 - v25))) u19).bind fun u27 =>
      nm (s4 + 1 : Int32) fun x28 =>
      some (.inl (x28, u27))
  else
    some (.inr u)
def gX12_mendFrom (F : Nat → Int32 → Int32 → Int32 → Mem → Option (Mem)) (t0 : Nat) (p1 : Int32) (p2 : Int32) (p3 : Int32) (u : Mem) : Option (Mem) :=
  (gfI u (some t0) 12 55).bind fun v1 =>
  if p3 < v1 then
    (gfI u (some t0) 12 25).bind fun v3 =>
    if p2 = v3 then
      (pfI u (some t0) 12 55 p3).bind fun u5 =>
      (lp (fun s : Int32 × Mem => bX12_mendFrom_25 F t0 s.1 s.2) FU ((0 : Int32), u5)).bind fun r13 =>
      some r13
    else
      if ((p1 >>> (p2 &&& 31)) &&& (1 : Int32)) = 0 then
        (chk u (some t0) 12).bind fun b15 =>
        (F t0 p1 (p2 + (1 : Int32)) p3 u).bind fun u16 =>
        some u16
      else
        (lp (fun s : Int32 × Mem => bX12_mendFrom_76 F t0 p1 p2 p3 s.1 s.2) FU ((0 : Int32), u)).bind fun r29 =>
        some r29
  else
    some u
def fX12_mendFrom : Nat → Nat → Int32 → Int32 → Int32 → Mem → Option (Mem)
  | 0, _, _, _, _, _ => none
  | n + 1, t0, p1, p2, p3, u => gX12_mendFrom (fX12_mendFrom n) t0 p1 p2 p3 u
theorem tX12_expects {l : Launch} {G : Gt} {d : Nat} {t0 : Nat} {p1 : Int32} {p2 : Int32} {u : Mem} {y : Int32} (h : fX12_expects t0 p1 p2 u = some y) : Rn l G iX12_expects d 0 [(0, rv (some t0)), (1, .int p1), (2, .int p2)] [] u (.returned (some (.int y))) u := by
  unfold fX12_expects at h
  refine rn_iload_n (pc := 0) 1 dX12_expects_0 rfl rfl ?_
  refine rn_aload_n (pc := 1) 0 dX12_expects_1 rfl rfl ?_
  obtain ⟨v1, hv1, h1⟩ := bnd_some h
  refine rn_getR (pc := 2) (k := 10) okX12 (by decide) tw_1003 rfl dX12_expects_2 hv1 ?_
  refine rn_iload_n (pc := 5) 2 dX12_expects_5 rfl rfl ?_
  obtain ⟨v2, hv2, h2⟩ := bnd_some h1
  refine rn_iald (pc := 6) dX12_expects_6 hv2 ?_
  refine rn_imul (pc := 7) dX12_expects_7 ?_
  refine rn_bipush (pc := 8) (v := 10) dX12_expects_8 (by decide) ?_
  refine rn_iload_n (pc := 10) 1 dX12_expects_10 rfl rfl ?_
  refine rn_isub (pc := 11) dX12_expects_11 ?_
  refine rn_aload_n (pc := 12) 0 dX12_expects_12 rfl rfl ?_
  obtain ⟨v3, hv3, h3⟩ := bnd_some h2
  refine rn_getR (pc := 13) (k := 11) okX12 (by decide) tw_1004 rfl dX12_expects_13 hv3 ?_
  refine rn_iload_n (pc := 16) 2 dX12_expects_16 rfl rfl ?_
  obtain ⟨v4, hv4, h4⟩ := bnd_some h3
  refine rn_iald (pc := 17) dX12_expects_17 hv4 ?_
  refine rn_imul (pc := 18) dX12_expects_18 ?_
  refine rn_iadd (pc := 19) dX12_expects_19 ?_
  cases h4
  exact rn_iret (pc := 20) rfl dX12_expects_20
theorem eX12_expects {l : Launch} {G : Gt} {d : Nat} {t0 : Nat} {p1 : Int32} {p2 : Int32} {u : Mem} {y : Int32} (h : fX12_expects t0 p1 p2 u = some y) : Ex l G iX12_expects d [rv (some t0), .int p1, .int p2] u (.returned (some (.int y))) u := Ex.of (by decide +kernel) (by decide) (Nat.le_of_ble_eq_true rfl) rfl (tX12_expects h)
theorem btX12_paysFor_4 {l : Launch} {G : Gt} {d : Nat} {t0 : Nat} {i1 : Int32} {u : Mem} {s2 : Int32} {s3 : Int32} {y : (Int32 × Int32) ⊕ (Int32)} {o : Outcome} {u' : Mem} (h : bX12_paysFor_4 t0 i1 u s2 s3 = some y) (k0 : ∀ s' : Int32 × Int32, y = .inl s' → Rn l G iX12_paysFor (d + 1) 4 [(0, rv (some t0)), (1, .int i1), (2, .int s'.1), (3, .int s'.2)] [] u o u') (k1 : ∀ r : Int32, y = .inr (r) → Rn l G iX12_paysFor (d + 1) 33 [(2, .int r)] [] u o u') : Rn l G iX12_paysFor (d + 1) 4 [(0, rv (some t0)), (1, .int i1), (2, .int s2), (3, .int s3)] [] u o u' := by
  unfold bX12_paysFor_4 at h
  refine rn_iload_n (pc := 4) 3 dX12_paysFor_4 rfl rfl ?_
  refine rn_bipush (pc := 5) (v := 11) dX12_paysFor_5 (by decide) ?_
  rcases if_elim h with ⟨c1, h1⟩ | ⟨c1, h1⟩
  · refine rn_ige_f (pc := 7) 33 dX12_paysFor_7 (by decide) c1 ?_
    refine rn_aload_n (pc := 10) 0 dX12_paysFor_10 rfl rfl ?_
    refine rn_iload_n (pc := 11) 1 dX12_paysFor_11 rfl rfl ?_
    refine rn_iload_n (pc := 12) 3 dX12_paysFor_12 rfl rfl ?_
    obtain ⟨b2, hb2, h2⟩ := bnd_some h1
    obtain ⟨qb2, kb2⟩ := chk_elim hb2
    cases qb2
    obtain ⟨v3, hv3, h3⟩ := bnd_some h2
    refine rn_callV (pc := 13) (n := 2) (As := [.int i1, .int s3]) (rest := []) (eX12_expects (d := d + 0) hv3) (by omega) okX12 kb2 tw_1322 tw_79 tw_1320 tw_1321 tw_56 (by decide +kernel) rfl (Nat.le_of_ble_eq_true rfl) dX12_paysFor_13 rfl ?_
    refine rn_aload_n (pc := 16) 0 dX12_paysFor_16 rfl rfl ?_
    refine rn_iload_n (pc := 17) 1 dX12_paysFor_17 rfl rfl ?_
    refine rn_iload_n (pc := 18) 2 dX12_paysFor_18 rfl rfl ?_
    obtain ⟨b4, hb4, h4⟩ := bnd_some h3
    obtain ⟨qb4, kb4⟩ := chk_elim hb4
    cases qb4
    obtain ⟨v5, hv5, h5⟩ := bnd_some h4
    refine rn_callV (pc := 19) (n := 2) (As := [.int i1, .int s2]) (rest := [.int v3]) (eX12_expects (d := d + 0) hv5) (by omega) okX12 kb4 tw_1322 tw_79 tw_1320 tw_1321 tw_56 (by decide +kernel) rfl (Nat.le_of_ble_eq_true rfl) dX12_paysFor_19 rfl ?_
    rcases if_elim h5 with ⟨c6, h6⟩ | ⟨c6, h6⟩
    · refine rn_ige_f (pc := 22) 27 dX12_paysFor_22 (by decide) c6 ?_
      refine rn_iload_n (pc := 25) 3 dX12_paysFor_25 rfl rfl ?_
      refine rn_istore_n (pc := 26) (lv' := [(2, .int s3), (0, rv (some t0)), (1, .int i1), (3, .int s3)]) dX12_paysFor_26 rfl (by decide) rfl ?_
      obtain ⟨x7, ex7, h7⟩ := nm_elim h6
      refine rn_iinc (pc := 27) (v := x7) (lv' := [(3, .int x7), (2, .int s3), (0, rv (some t0)), (1, .int i1)]) 3 dX12_paysFor_27 rfl (by rw [ex7]; rfl) (by decide) rfl ?_
      refine rn_goto (pc := 30) (tgt := 4) dX12_paysFor_30 (by decide) ?_
      cases h7
      exact rn_sub [2, 3, 1, 0] rfl (k0 _ rfl)
    · refine rn_ige_t (pc := 22) (tgt := 27) dX12_paysFor_22 (by decide) c6 ?_
      obtain ⟨x8, ex8, h8⟩ := nm_elim h6
      refine rn_iinc (pc := 27) (v := x8) (lv' := [(3, .int x8), (0, rv (some t0)), (1, .int i1), (2, .int s2)]) 3 dX12_paysFor_27 rfl (by rw [ex8]; rfl) (by decide) rfl ?_
      refine rn_goto (pc := 30) (tgt := 4) dX12_paysFor_30 (by decide) ?_
      cases h8
      exact rn_sub [1, 2, 3, 0] rfl (k0 _ rfl)
  · refine rn_ige_t (pc := 7) (tgt := 33) dX12_paysFor_7 (by decide) c1 ?_
    cases h1
    exact rn_sub [2] rfl (k1 _ rfl)
theorem lX12_paysFor_4 {l : Launch} {G : Gt} {d : Nat} {t0 : Nat} {i1 : Int32} {u : Mem} {N : Nat} {s0 : Int32 × Int32} {r : Int32} {o : Outcome} {u' : Mem} (h : lp (fun s : Int32 × Int32 => bX12_paysFor_4 t0 i1 u s.1 s.2) N s0 = some r) (k1 : Rn l G iX12_paysFor (d + 1) 33 [(2, .int r)] [] u o u') : Rn l G iX12_paysFor (d + 1) 4 [(0, rv (some t0)), (1, .int i1), (2, .int s0.1), (3, .int s0.2)] [] u o u' :=
  lp_run (P := fun s : Int32 × Int32 => Rn l G iX12_paysFor (d + 1) 4 [(0, rv (some t0)), (1, .int i1), (2, .int s.1), (3, .int s.2)] [] u o u') (E := fun r => Rn l G iX12_paysFor (d + 1) 33 [(2, .int r)] [] u o u') (fun s y hy k0 kE => btX12_paysFor_4 hy (fun s' e => k0 s' e) (fun r e => kE r e)) N s0 r h k1
theorem tX12_paysFor {l : Launch} {G : Gt} {d : Nat} {t0 : Nat} {p1 : Int32} {u : Mem} {y : Int32} (h : fX12_paysFor t0 p1 u = some y) : Rn l G iX12_paysFor (d + 1) 0 [(0, rv (some t0)), (1, .int p1)] [] u (.returned (some (.int y))) u := by
  unfold fX12_paysFor at h
  refine rn_iconst (pc := 0) (v := 0) dX12_paysFor_0 (by decide) ?_
  refine rn_istore_n (pc := 1) (lv' := [(2, .int (0 : Int32)), (0, rv (some t0)), (1, .int p1)]) dX12_paysFor_1 rfl (by decide) rfl ?_
  refine rn_iconst (pc := 2) (v := 1) dX12_paysFor_2 (by decide) ?_
  refine rn_istore_n (pc := 3) (lv' := [(3, .int (1 : Int32)), (2, .int (0 : Int32)), (0, rv (some t0)), (1, .int p1)]) dX12_paysFor_3 rfl (by decide) rfl ?_
  obtain ⟨r9, hr9, h1⟩ := bnd_some h
  refine rn_sub [2, 3, 1, 0] rfl (lX12_paysFor_4 hr9 ?_)
  refine rn_iload_n (pc := 33) 0 dX12_paysFor_33 rfl rfl ?_
  cases h1
  exact rn_iret (pc := 34) rfl dX12_paysFor_34
theorem eX12_paysFor {l : Launch} {G : Gt} {d : Nat} {t0 : Nat} {p1 : Int32} {u : Mem} {y : Int32} (h : fX12_paysFor t0 p1 u = some y) : Ex l G iX12_paysFor (d + 1) [rv (some t0), .int p1] u (.returned (some (.int y))) u := Ex.of (by decide +kernel) (by decide) (Nat.le_of_ble_eq_true rfl) rfl (tX12_paysFor h)
theorem tX12_pays {l : Launch} {G : Gt} {d : Nat} {t0 : Nat} {p1 : Int32} {u : Mem} {y : Int32} (h : fX12_pays t0 p1 u = some y) : Rn l G iX12_pays (d + 2) 0 [(0, rv (some t0)), (1, .int p1)] [] u (.returned (some (.int y))) u := by
  unfold fX12_pays at h
  refine rn_iload_n (pc := 0) 1 dX12_pays_0 rfl rfl ?_
  refine rn_i2l (pc := 1) dX12_pays_1 ?_
  refine rn_lconst (pc := 2) (v := 0) dX12_pays_2 (by decide) ?_
  refine rn_ldc2 (pc := 3) tw_1225 dX12_pays_3 ?_
  obtain ⟨v1, hv1, h1⟩ := bnd_some h
  refine rn_callS (pc := 6) (n := 3) (As := [.long (Int32.toInt64 p1), .long (0 : Int64), .long (10 : Int64)]) (rest := []) (eX12_in (d := d + 1) hv1) (by omega) tw_1177 tw_79 tw_1175 tw_1176 (by decide +kernel) rfl (Nat.le_of_ble_eq_true rfl) dX12_pays_6 rfl ?_
  rcases if_elim h1 with ⟨c2, h2⟩ | ⟨c2, h2⟩
  · refine rn_zeq_t (pc := 9) (tgt := 20) dX12_pays_9 (by decide) c2 ?_
    refine rn_bipush (pc := 20) (v := -2) dX12_pays_20 (by decide) ?_
    cases h2
    exact rn_iret (pc := 22) rfl dX12_pays_22
  · refine rn_zeq_f (pc := 9) 20 dX12_pays_9 (by decide) c2 ?_
    refine rn_aload_n (pc := 12) 0 dX12_pays_12 rfl rfl ?_
    refine rn_iload_n (pc := 13) 1 dX12_pays_13 rfl rfl ?_
    obtain ⟨b3, hb3, h3⟩ := bnd_some h2
    obtain ⟨qb3, kb3⟩ := chk_elim hb3
    cases qb3
    obtain ⟨v4, hv4, h4⟩ := bnd_some h3
    refine rn_callV (pc := 14) (n := 1) (As := [.int p1]) (rest := []) (eX12_paysFor (d := d + 0) hv4) (by omega) okX12 kb3 tw_1319 tw_79 tw_1317 tw_1318 tw_55 (by decide +kernel) rfl (Nat.le_of_ble_eq_true rfl) dX12_pays_14 rfl ?_
    refine rn_goto (pc := 17) (tgt := 22) dX12_pays_17 (by decide) ?_
    cases h4
    exact rn_iret (pc := 22) rfl dX12_pays_22
theorem eX12_pays {l : Launch} {G : Gt} {d : Nat} {t0 : Nat} {p1 : Int32} {u : Mem} {y : Int32} (h : fX12_pays t0 p1 u = some y) : Ex l G iX12_pays (d + 2) [rv (some t0), .int p1] u (.returned (some (.int y))) u := Ex.of (by decide +kernel) (by decide) (Nat.le_of_ble_eq_true rfl) rfl (tX12_pays h)
theorem btX12_honest_10 {l : Launch} {G : Gt} {d : Nat} {t0 : Nat} {i1 : Int32} {u : Mem} {s2 : Int32} {y : (Int32) ⊕ ((Unit) ⊕ (Unit))} {o : Outcome} {u' : Mem} (h : bX12_honest_10 t0 i1 u s2 = some y) (k0 : ∀ s' : Int32, y = .inl s' → Rn l G iX12_honest (d + 1) 10 [(0, rv (some t0)), (1, .int i1), (2, .int s')] [] u o u') (k1 : ∀ r : Unit, y = .inr (.inl r) → Rn l G iX12_honest (d + 1) 44 [(0, rv (some t0)), (1, .int i1)] [] u o u') (k2 : ∀ r : Unit, y = .inr (.inr (r)) → Rn l G iX12_honest (d + 1) 36 [(1, .int i1)] [] u o u') : Rn l G iX12_honest (d + 1) 10 [(0, rv (some t0)), (1, .int i1), (2, .int s2)] [] u o u' := by
  unfold bX12_honest_10 at h
  refine rn_iload_n (pc := 10) 2 dX12_honest_10 rfl rfl ?_
  refine rn_bipush (pc := 11) (v := 11) dX12_honest_11 (by decide) ?_
  rcases if_elim h with ⟨c2, h1⟩ | ⟨c2, h1⟩
  · refine rn_ige_f (pc := 13) 44 dX12_honest_13 (by decide) c2 ?_
    refine rn_iload_n (pc := 16) 2 dX12_honest_16 rfl rfl ?_
    refine rn_iload_n (pc := 17) 1 dX12_honest_17 rfl rfl ?_
    rcases if_elim h1 with ⟨c3, h2⟩ | ⟨c3, h2⟩
    · refine rn_ieq_t (pc := 18) (tgt := 38) dX12_honest_18 (by decide) c3 ?_
      obtain ⟨x4, ex4, h3⟩ := nm_elim h2
      refine rn_iinc (pc := 38) (v := x4) (lv' := [(2, .int x4), (0, rv (some t0)), (1, .int i1)]) 2 dX12_honest_38 rfl (by rw [ex4]; rfl) (by decide) rfl ?_
      refine rn_goto (pc := 41) (tgt := 10) dX12_honest_41 (by decide) ?_
      cases h3
      exact rn_sub [1, 2, 0] rfl (k0 _ rfl)
    · refine rn_ieq_f (pc := 18) 38 dX12_honest_18 (by decide) c3 ?_
      refine rn_aload_n (pc := 21) 0 dX12_honest_21 rfl rfl ?_
      refine rn_iload_n (pc := 22) 1 dX12_honest_22 rfl rfl ?_
      refine rn_iload_n (pc := 23) 2 dX12_honest_23 rfl rfl ?_
      obtain ⟨b5, hb5, h4⟩ := bnd_some h2
      obtain ⟨qb5, kb5⟩ := chk_elim hb5
      cases qb5
      obtain ⟨v6, hv6, h5⟩ := bnd_some h4
      refine rn_callV (pc := 24) (n := 2) (As := [.int i1, .int s2]) (rest := []) (eX12_expects (d := d + 0) hv6) (by omega) okX12 kb5 tw_1322 tw_79 tw_1320 tw_1321 tw_56 (by decide +kernel) rfl (Nat.le_of_ble_eq_true rfl) dX12_honest_24 rfl ?_
      refine rn_aload_n (pc := 27) 0 dX12_honest_27 rfl rfl ?_
      refine rn_iload_n (pc := 28) 1 dX12_honest_28 rfl rfl ?_
      refine rn_iload_n (pc := 29) 1 dX12_honest_29 rfl rfl ?_
      obtain ⟨b7, hb7, h6⟩ := bnd_some h5
      obtain ⟨qb7, kb7⟩ := chk_elim hb7
      cases qb7
      obtain ⟨v8, hv8, h7⟩ := bnd_some h6
      refine rn_callV (pc := 30) (n := 2) (As := [.int i1, .int i1]) (rest := [.int v6]) (eX12_expects (d := d + 0) hv8) (by omega) okX12 kb7 tw_1322 tw_79 tw_1320 tw_1321 tw_56 (by decide +kernel) rfl (Nat.le_of_ble_eq_true rfl) dX12_honest_30 rfl ?_
      rcases if_elim h7 with ⟨c9, h8⟩ | ⟨c9, h8⟩
      · refine rn_igt_t (pc := 33) (tgt := 38) dX12_honest_33 (by decide) c9 ?_
        obtain ⟨x10, ex10, h9⟩ := nm_elim h8
        refine rn_iinc (pc := 38) (v := x10) (lv' := [(2, .int x10), (0, rv (some t0)), (1, .int i1)]) 2 dX12_honest_38 rfl (by rw [ex10]; rfl) (by decide) rfl ?_
        refine rn_goto (pc := 41) (tgt := 10) dX12_honest_41 (by decide) ?_
        cases h9
        exact rn_sub [1, 2, 0] rfl (k0 _ rfl)
      · refine rn_igt_f (pc := 33) 38 dX12_honest_33 (by decide) c9 ?_
        cases h8
        exact rn_sub [1] rfl (k2 _ rfl)
  · refine rn_ige_t (pc := 13) (tgt := 44) dX12_honest_13 (by decide) c2 ?_
    cases h1
    exact rn_sub [0, 1] rfl (k1 _ rfl)
theorem lX12_honest_10 {l : Launch} {G : Gt} {d : Nat} {t0 : Nat} {i1 : Int32} {u : Mem} {N : Nat} {s0 : Int32} {r : (Unit) ⊕ (Unit)} {o : Outcome} {u' : Mem} (h : lp (fun s : Int32 => bX12_honest_10 t0 i1 u s) N s0 = some r) (k1 : ∀ r' : Unit, r = .inl r' → Rn l G iX12_honest (d + 1) 44 [(0, rv (some t0)), (1, .int i1)] [] u o u') (k2 : ∀ r' : Unit, r = .inr (r') → Rn l G iX12_honest (d + 1) 36 [(1, .int i1)] [] u o u') : Rn l G iX12_honest (d + 1) 10 [(0, rv (some t0)), (1, .int i1), (2, .int s0)] [] u o u' :=
  lp_run (P := fun s : Int32 => Rn l G iX12_honest (d + 1) 10 [(0, rv (some t0)), (1, .int i1), (2, .int s)] [] u o u') (E := fun r => (∀ r' : Unit, r = .inl r' → Rn l G iX12_honest (d + 1) 44 [(0, rv (some t0)), (1, .int i1)] [] u o u') ∧ (∀ r' : Unit, r = .inr (r') → Rn l G iX12_honest (d + 1) 36 [(1, .int i1)] [] u o u')) (fun s y hy k0 kE => btX12_honest_10 hy (fun s' e => k0 s' e) (fun r e => (kE _ e).1 r rfl) (fun r e => (kE _ e).2 r rfl)) N s0 r h ⟨k1, k2⟩
theorem btX12_honest_2 {l : Launch} {G : Gt} {d : Nat} {t0 : Nat} {u : Mem} {s1 : Int32} {y : (Int32) ⊕ ((Unit) ⊕ (Int32))} {o : Outcome} {u' : Mem} (h : bX12_honest_2 t0 u s1 = some y) (k0 : ∀ s' : Int32, y = .inl s' → Rn l G iX12_honest (d + 1) 2 [(0, rv (some t0)), (1, .int s')] [] u o u') (k1 : ∀ r : Unit, y = .inr (.inl r) → Rn l G iX12_honest (d + 1) 50 [] [] u o u') (k2 : ∀ r : Int32, y = .inr (.inr (r)) → Rn l G iX12_honest (d + 1) 36 [(1, .int r)] [] u o u') : Rn l G iX12_honest (d + 1) 2 [(0, rv (some t0)), (1, .int s1)] [] u o u' := by
  unfold bX12_honest_2 at h
  refine rn_iload_n (pc := 2) 1 dX12_honest_2 rfl rfl ?_
  refine rn_bipush (pc := 3) (v := 11) dX12_honest_3 (by decide) ?_
  rcases if_elim h with ⟨c1, h1⟩ | ⟨c1, h1⟩
  · refine rn_ige_f (pc := 5) 50 dX12_honest_5 (by decide) c1 ?_
    refine rn_iconst (pc := 8) (v := 0) dX12_honest_8 (by decide) ?_
    refine rn_istore_n (pc := 9) (lv' := [(2, .int (0 : Int32)), (0, rv (some t0)), (1, .int s1)]) dX12_honest_9 rfl (by decide) rfl ?_
    obtain ⟨r11, hr11, h2⟩ := bnd_some h1
    rcases r11 with r12 | r13
    · refine rn_sub [1, 2, 0] rfl (lX12_honest_10 hr11 (fun _ hq => ?_) (fun _ hq => by cases hq))
      cases hq
      have h3 := sumE_l h2
      obtain ⟨x14, ex14, h4⟩ := nm_elim h3
      refine rn_iinc (pc := 44) (v := x14) (lv' := [(1, .int x14), (0, rv (some t0))]) 1 dX12_honest_44 rfl (by rw [ex14]; rfl) (by decide) rfl ?_
      refine rn_goto (pc := 47) (tgt := 2) dX12_honest_47 (by decide) ?_
      cases h4
      exact rn_sub [1, 0] rfl (k0 _ rfl)
    · refine rn_sub [1, 2, 0] rfl (lX12_honest_10 hr11 (fun _ hq => by cases hq) (fun _ hq => ?_))
      cases hq
      have h5 := sumE_r h2
      cases h5
      exact rn_sub [0] rfl (k2 _ rfl)
  · refine rn_ige_t (pc := 5) (tgt := 50) dX12_honest_5 (by decide) c1 ?_
    cases h1
    exact rn_sub [] rfl (k1 _ rfl)
theorem lX12_honest_2 {l : Launch} {G : Gt} {d : Nat} {t0 : Nat} {u : Mem} {N : Nat} {s0 : Int32} {r : (Unit) ⊕ (Int32)} {o : Outcome} {u' : Mem} (h : lp (fun s : Int32 => bX12_honest_2 t0 u s) N s0 = some r) (k1 : ∀ r' : Unit, r = .inl r' → Rn l G iX12_honest (d + 1) 50 [] [] u o u') (k2 : ∀ r' : Int32, r = .inr (r') → Rn l G iX12_honest (d + 1) 36 [(1, .int r')] [] u o u') : Rn l G iX12_honest (d + 1) 2 [(0, rv (some t0)), (1, .int s0)] [] u o u' :=
  lp_run (P := fun s : Int32 => Rn l G iX12_honest (d + 1) 2 [(0, rv (some t0)), (1, .int s)] [] u o u') (E := fun r => (∀ r' : Unit, r = .inl r' → Rn l G iX12_honest (d + 1) 50 [] [] u o u') ∧ (∀ r' : Int32, r = .inr (r') → Rn l G iX12_honest (d + 1) 36 [(1, .int r')] [] u o u')) (fun s y hy k0 kE => btX12_honest_2 hy (fun s' e => k0 s' e) (fun r e => (kE _ e).1 r rfl) (fun r e => (kE _ e).2 r rfl)) N s0 r h ⟨k1, k2⟩
theorem tX12_honest {l : Launch} {G : Gt} {d : Nat} {t0 : Nat} {u : Mem} {y : Int32} (h : fX12_honest t0 u = some y) : Rn l G iX12_honest (d + 1) 0 [(0, rv (some t0))] [] u (.returned (some (.int y))) u := by
  unfold fX12_honest at h
  refine rn_iconst (pc := 0) (v := 0) dX12_honest_0 (by decide) ?_
  refine rn_istore_n (pc := 1) (lv' := [(1, .int (0 : Int32)), (0, rv (some t0))]) dX12_honest_1 rfl (by decide) rfl ?_
  obtain ⟨r15, hr15, h1⟩ := bnd_some h
  rcases r15 with r16 | r17
  · refine rn_sub [1, 0] rfl (lX12_honest_2 hr15 (fun _ hq => ?_) (fun _ hq => by cases hq))
    cases hq
    have h2 := sumE_l h1
    refine rn_iconst (pc := 50) (v := -1) dX12_honest_50 (by decide) ?_
    cases h2
    exact rn_iret (pc := 51) rfl dX12_honest_51
  · refine rn_sub [1, 0] rfl (lX12_honest_2 hr15 (fun _ hq => by cases hq) (fun _ hq => ?_))
    cases hq
    have h3 := sumE_r h1
    refine rn_iload_n (pc := 36) 0 dX12_honest_36 rfl rfl ?_
    cases h3
    exact rn_iret (pc := 37) rfl dX12_honest_37
theorem eX12_honest {l : Launch} {G : Gt} {d : Nat} {t0 : Nat} {u : Mem} {y : Int32} (h : fX12_honest t0 u = some y) : Ex l G iX12_honest (d + 1) [rv (some t0)] u (.returned (some (.int y))) u := Ex.of (by decide +kernel) (by decide) (Nat.le_of_ble_eq_true rfl) rfl (tX12_honest h)
theorem tX12_copies {l : Launch} {G : Gt} {d : Nat} {t0 : Nat} {p1 : Int32} {p2 : Int32} {u : Mem} {y : Int32 × Mem} (h : fX12_copies t0 p1 p2 u = some y) : Rn l G iX12_copies (d + 2) 0 [(0, rv (some t0)), (1, .int p1), (2, .int p2)] [] u (.returned (some (.int y.1))) y.2 := by
  unfold fX12_copies at h
  refine rn_iload_n (pc := 0) 1 dX12_copies_0 rfl rfl ?_
  obtain ⟨v1, hv1, h1⟩ := bnd_some h
  refine rn_callS (pc := 1) (n := 1) (As := [.int p1]) (rest := []) (eX12_isGuesser (d := d + 0) hv1) (by omega) tw_1251 tw_79 tw_1249 tw_1250 (by decide +kernel) rfl (Nat.le_of_ble_eq_true rfl) dX12_copies_1 rfl ?_
  rcases if_elim h1 with ⟨c2, h2⟩ | ⟨c2, h2⟩
  · refine rn_zeq_t (pc := 4) (tgt := 19) dX12_copies_4 (by decide) c2 ?_
    refine rn_bipush (pc := 19) (v := -2) dX12_copies_19 (by decide) ?_
    cases h2
    exact rn_iret (pc := 21) rfl dX12_copies_21
  · refine rn_zeq_f (pc := 4) 19 dX12_copies_4 (by decide) c2 ?_
    refine rn_iload_n (pc := 7) 2 dX12_copies_7 rfl rfl ?_
    obtain ⟨v3, hv3, h3⟩ := bnd_some h2
    refine rn_callS (pc := 8) (n := 1) (As := [.int p2]) (rest := []) (eX12_isGuesser (d := d + 0) hv3) (by omega) tw_1251 tw_79 tw_1249 tw_1250 (by decide +kernel) rfl (Nat.le_of_ble_eq_true rfl) dX12_copies_8 rfl ?_
    rcases if_elim h3 with ⟨c4, h4⟩ | ⟨c4, h4⟩
    · refine rn_zeq_t (pc := 11) (tgt := 19) dX12_copies_11 (by decide) c4 ?_
      refine rn_bipush (pc := 19) (v := -2) dX12_copies_19 (by decide) ?_
      cases h4
      exact rn_iret (pc := 21) rfl dX12_copies_21
    · refine rn_zeq_f (pc := 11) 19 dX12_copies_11 (by decide) c4 ?_
      refine rn_iload_n (pc := 14) 1 dX12_copies_14 rfl rfl ?_
      refine rn_iload_n (pc := 15) 2 dX12_copies_15 rfl rfl ?_
      rcases if_elim h4 with ⟨c5, h5⟩ | ⟨c5, h5⟩
      · refine rn_ine_f (pc := 16) 22 dX12_copies_16 (by decide) c5 ?_
        refine rn_bipush (pc := 19) (v := -2) dX12_copies_19 (by decide) ?_
        cases h5
        exact rn_iret (pc := 21) rfl dX12_copies_21
      · refine rn_ine_t (pc := 16) (tgt := 22) dX12_copies_16 (by decide) c5 ?_
        refine rn_aload_n (pc := 22) 0 dX12_copies_22 rfl rfl ?_
        obtain ⟨v6, hv6, h6⟩ := bnd_some h5
        refine rn_getI (pc := 23) (k := 2) okX12 (by decide) tw_995 rfl dX12_copies_23 hv6 ?_
        refine rn_iconst (pc := 26) (v := -1) dX12_copies_26 (by decide) ?_
        rcases if_elim h6 with ⟨c7, h7⟩ | ⟨c7, h7⟩
        · refine rn_ine_f (pc := 27) 33 dX12_copies_27 (by decide) c7 ?_
          refine rn_bipush (pc := 30) (v := -4) dX12_copies_30 (by decide) ?_
          cases h7
          exact rn_iret (pc := 32) rfl dX12_copies_32
        · refine rn_ine_t (pc := 27) (tgt := 33) dX12_copies_27 (by decide) c7 ?_
          refine rn_aload_n (pc := 33) 0 dX12_copies_33 rfl rfl ?_
          obtain ⟨b8, hb8, h8⟩ := bnd_some h7
          obtain ⟨qb8, kb8⟩ := chk_elim hb8
          cases qb8
          obtain ⟨u9, hu9, h9⟩ := bnd_some h8
          refine rn_callV (pc := 34) (n := 0) (As := []) (rest := []) (eX12_findCopies (d := d + 1) hu9) (by omega) okX12 kb8 tw_1333 tw_79 tw_1331 tw_1332 tw_57 (by decide +kernel) rfl (Nat.le_of_ble_eq_true rfl) dX12_copies_34 rfl ?_
          refine rn_aload_n (pc := 37) 0 dX12_copies_37 rfl rfl ?_
          refine rn_iload_n (pc := 38) 1 dX12_copies_38 rfl rfl ?_
          refine rn_iload_n (pc := 39) 2 dX12_copies_39 rfl rfl ?_
          refine rn_sipush (pc := 40) (v := 999) dX12_copies_40 (by decide) ?_
          obtain ⟨b10, hb10, h10⟩ := bnd_some h9
          obtain ⟨qb10, kb10⟩ := chk_elim hb10
          cases qb10
          obtain ⟨v11, hv11, h11⟩ := bnd_some h10
          refine rn_callV (pc := 43) (n := 3) (As := [.int p1, .int p2, .int (999 : Int32)]) (rest := []) (eX12_copiesOf (d := d + 1) hv11) (by omega) okX12 kb10 tw_1336 tw_79 tw_1334 tw_1335 tw_58 (by decide +kernel) rfl (Nat.le_of_ble_eq_true rfl) dX12_copies_43 rfl ?_
          cases h11
          exact rn_iret (pc := 46) rfl dX12_copies_46
theorem eX12_copies {l : Launch} {G : Gt} {d : Nat} {t0 : Nat} {p1 : Int32} {p2 : Int32} {u : Mem} {y : Int32 × Mem} (h : fX12_copies t0 p1 p2 u = some y) : Ex l G iX12_copies (d + 2) [rv (some t0), .int p1, .int p2] u (.returned (some (.int y.1))) y.2 := Ex.of (by decide +kernel) (by decide) (Nat.le_of_ble_eq_true rfl) rfl (tX12_copies h)
theorem btX12_weightOn_17 {l : Launch} {G : Gt} {d : Nat} {t0 : Nat} {i1 : Int32} {i2 : Int32} {u : Mem} {s3 : Int32} {s4 : Int32} {s5 : Int32} {y : (Int32 × Int32 × Int32) ⊕ (Int32 × Int32)} {o : Outcome} {u' : Mem} (h : bX12_weightOn_17 t0 i1 i2 u s3 s4 s5 = some y) (k0 : ∀ s' : Int32 × Int32 × Int32, y = .inl s' → Rn l G iX12_weightOn (d + 2) 17 [(0, rv (some t0)), (1, .int i1), (2, .int i2), (3, .int s'.1), (4, .int s'.2.1), (5, .int s'.2.2)] [] u o u') (k1 : ∀ r : Int32 × Int32, y = .inr (r) → Rn l G iX12_weightOn (d + 2) 86 [(3, .int r.1), (4, .int r.2)] [] u o u') : Rn l G iX12_weightOn (d + 2) 17 [(0, rv (some t0)), (1, .int i1), (2, .int i2), (3, .int s3), (4, .int s4), (5, .int s5)] [] u o u' := by
  unfold bX12_weightOn_17 at h
  refine rn_iload (pc := 17) 5 dX12_weightOn_17 rfl ?_
  refine rn_aload_n (pc := 19) 0 dX12_weightOn_19 rfl rfl ?_
  obtain ⟨v3, hv3, h1⟩ := bnd_some h
  refine rn_getI (pc := 20) (k := 25) okX12 (by decide) tw_1018 rfl dX12_weightOn_20 hv3 ?_
  rcases if_elim h1 with ⟨c4, h2⟩ | ⟨c4, h2⟩
  · refine rn_ige_f (pc := 23) 86 dX12_weightOn_23 (by decide) c4 ?_
    refine rn_aload_n (pc := 26) 0 dX12_weightOn_26 rfl rfl ?_
    refine rn_iload_n (pc := 27) 1 dX12_weightOn_27 rfl rfl ?_
    refine rn_iload (pc := 28) 5 dX12_weightOn_28 rfl ?_
    obtain ⟨b5, hb5, h3⟩ := bnd_some h2
    obtain ⟨qb5, kb5⟩ := chk_elim hb5
    cases qb5
    obtain ⟨v6, hv6, h4⟩ := bnd_some h3
    refine rn_callV (pc := 30) (n := 2) (As := [.int i1, .int s5]) (rest := []) (eX12_counts (d := d + 0) hv6) (by omega) okX12 kb5 tw_1302 tw_79 tw_1300 tw_1301 tw_53 (by decide +kernel) rfl (Nat.le_of_ble_eq_true rfl) dX12_weightOn_30 rfl ?_
    rcases if_elim h4 with ⟨c7, h5⟩ | ⟨c7, h5⟩
    · refine rn_zeq_t (pc := 33) (tgt := 80) dX12_weightOn_33 (by decide) c7 ?_
      obtain ⟨x8, ex8, h6⟩ := nm_elim h5
      refine rn_iinc (pc := 80) (v := x8) (lv' := [(5, .int x8), (0, rv (some t0)), (1, .int i1), (2, .int i2), (3, .int s3), (4, .int s4)]) 5 dX12_weightOn_80 rfl (by rw [ex8]; rfl) (by decide) rfl ?_
      refine rn_goto (pc := 83) (tgt := 17) dX12_weightOn_83 (by decide) ?_
      cases h6
      exact rn_sub [1, 2, 3, 4, 5, 0] rfl (k0 _ rfl)
    · refine rn_zeq_f (pc := 33) 80 dX12_weightOn_33 (by decide) c7 ?_
      refine rn_aload_n (pc := 36) 0 dX12_weightOn_36 rfl rfl ?_
      obtain ⟨v9, hv9, h7⟩ := bnd_some h5
      refine rn_getR (pc := 37) (k := 31) okX12 (by decide) tw_1024 rfl dX12_weightOn_37 hv9 ?_
      refine rn_iload (pc := 40) 5 dX12_weightOn_40 rfl ?_
      obtain ⟨v10, hv10, h8⟩ := bnd_some h7
      refine rn_iald (pc := 42) dX12_weightOn_42 hv10 ?_
      refine rn_iload_n (pc := 43) 2 dX12_weightOn_43 rfl rfl ?_
      rcases if_elim h8 with ⟨c11, h9⟩ | ⟨c11, h9⟩
      · refine rn_ilt_t (pc := 44) (tgt := 50) dX12_weightOn_44 (by decide) c11 ?_
        refine rn_iload_n (pc := 50) 3 dX12_weightOn_50 rfl rfl ?_
        refine rn_aload_n (pc := 51) 0 dX12_weightOn_51 rfl rfl ?_
        obtain ⟨v12, hv12, h10⟩ := bnd_some h9
        refine rn_getR (pc := 52) (k := 42) okX12 (by decide) tw_1035 rfl dX12_weightOn_52 hv12 ?_
        refine rn_iload_n (pc := 55) 1 dX12_weightOn_55 rfl rfl ?_
        refine rn_iload (pc := 56) 5 dX12_weightOn_56 rfl ?_
        obtain ⟨v13, hv13, h11⟩ := bnd_some h10
        refine rn_callS (pc := 58) (n := 2) (As := [.int i1, .int s5]) (rest := [rv v12, .int s3]) (eX12_pair (d := d + 1) hv13) (by omega) tw_1273 tw_79 tw_1271 tw_1272 (by decide +kernel) rfl (cat_le8 (Nat.le_of_ble_eq_true rfl)) dX12_weightOn_58 rfl ?_
        obtain ⟨v14, hv14, h12⟩ := bnd_some h11
        refine rn_iald (pc := 61) dX12_weightOn_61 hv14 ?_
        refine rn_iadd (pc := 62) dX12_weightOn_62 ?_
        obtain ⟨x15, ex15, h13⟩ := nm_elim h12
        refine rn_topi ex15 ?_
        refine rn_istore_n (pc := 63) (lv' := [(3, .int x15), (0, rv (some t0)), (1, .int i1), (2, .int i2), (4, .int s4), (5, .int s5)]) dX12_weightOn_63 rfl (by decide) rfl ?_
        refine rn_iload (pc := 64) 4 dX12_weightOn_64 rfl ?_
        refine rn_aload_n (pc := 66) 1 dX12_weightOn_66 rfl rfl ?_
        obtain ⟨v16, hv16, h14⟩ := bnd_some h13
        refine rn_getR (pc := 67) (k := 41) okX12 (by decide) tw_1034 rfl dX12_weightOn_67 hv16 ?_
        refine rn_iload_n (pc := 70) 2 dX12_weightOn_70 rfl rfl ?_
        refine rn_iload (pc := 71) 5 dX12_weightOn_71 rfl ?_
        obtain ⟨v17, hv17, h15⟩ := bnd_some h14
        refine rn_callS (pc := 73) (n := 2) (As := [.int i1, .int s5]) (rest := [rv v16, .int s4]) (eX12_pair (d := d + 1) hv17) (by omega) tw_1273 tw_79 tw_1271 tw_1272 (by decide +kernel) rfl (cat_le8 (Nat.le_of_ble_eq_true rfl)) dX12_weightOn_73 rfl ?_
        obtain ⟨v18, hv18, h16⟩ := bnd_some h15
        refine rn_iald (pc := 76) dX12_weightOn_76 hv18 ?_
        refine rn_iadd (pc := 77) dX12_weightOn_77 ?_
        obtain ⟨x19, ex19, h17⟩ := nm_elim h16
        refine rn_topi ex19 ?_
        refine rn_istore (pc := 78) (lv' := [(4, .int x19), (3, .int x15), (0, rv (some t0)), (1, .int i1), (2, .int i2), (5, .int s5)]) dX12_weightOn_78 (by decide) rfl ?_
        obtain ⟨x20, ex20, h18⟩ := nm_elim h17
        refine rn_iinc (pc := 80) (v := x20) (lv' := [(5, .int x20), (4, .int x19), (3, .int x15), (0, rv (some t0)), (1, .int i1), (2, .int i2)]) 5 dX12_weightOn_80 rfl (by rw [ex20]; rfl) (by decide) rfl ?_
        refine rn_goto (pc := 83) (tgt := 17) dX12_weightOn_83 (by decide) ?_
        cases h18
        exact rn_sub [3, 4, 5, 2, 1, 0] rfl (k0 _ rfl)
      · refine rn_ilt_f (pc := 44) 50 dX12_weightOn_44 (by decide) c11 ?_
        refine rn_goto (pc := 47) (tgt := 80) dX12_weightOn_47 (by decide) ?_
        obtain ⟨x21, ex21, h19⟩ := nm_elim h9
        refine rn_iinc (pc := 80) (v := x21) (lv' := [(5, .int x21), (0, rv (some t0)), (1, .int i1), (2, .int i2), (3, .int s3), (4, .int s4)]) 5 dX12_weightOn_80 rfl (by rw [ex21]; rfl) (by decide) rfl ?_
        refine rn_goto (pc := 83) (tgt := 17) dX12_weightOn_83 (by decide) ?_
        cases h19
        exact rn_sub [1, 2, 3, 4, 5, 0] rfl (k0 _ rfl)
  · refine rn_ige_t (pc := 23) (tgt := 86) dX12_weightOn_23 (by decide) c4 ?_
    cases h2
    exact rn_sub [3, 4] rfl (k1 _ rfl)
theorem lX12_weightOn_17 {l : Launch} {G : Gt} {d : Nat} {t0 : Nat} {i1 : Int32} {i2 : Int32} {u : Mem} {N : Nat} {s0 : Int32 × Int32 × Int32} {r : Int32 × Int32} {o : Outcome} {u' : Mem} (h : lp (fun s : Int32 × Int32 × Int32 => bX12_weightOn_17 t0 i1 i2 u s.1 s.2.1 s.2.2) N s0 = some r) (k1 : Rn l G iX12_weightOn (d + 2) 86 [(3, .int r.1), (4, .int r.2)] [] u o u') : Rn l G iX12_weightOn (d + 2) 17 [(0, rv (some t0)), (1, .int i1), (2, .int i2), (3, .int s0.1), (4, .int s0.2.1), (5, .int s0.2.2)] [] u o u' :=
  lp_run (P := fun s : Int32 × Int32 × Int32 => Rn l G iX12_weightOn (d + 2) 17 [(0, rv (some t0)), (1, .int i1), (2, .int i2), (3, .int s.1), (4, .int s.2.1), (5, .int s.2.2)] [] u o u') (E := fun r => Rn l G iX12_weightOn (d + 2) 86 [(3, .int r.1), (4, .int r.2)] [] u o u') (fun s y hy k0 kE => btX12_weightOn_17 hy (fun s' e => k0 s' e) (fun r e => kE r e)) N s0 r h k1
theorem tX12_weightOn {l : Launch} {G : Gt} {d : Nat} {t0 : Nat} {p1 : Int32} {p2 : Int32} {u : Mem} {y : Int32} (h : fX12_weightOn t0 p1 p2 u = some y) : Rn l G iX12_weightOn (d + 2) 0 [(0, rv (some t0)), (1, .int p1), (2, .int p2)] [] u (.returned (some (.int y))) u := by
  unfold fX12_weightOn at h
  refine rn_aload_n (pc := 0) 0 dX12_weightOn_0 rfl rfl ?_
  obtain ⟨v1, hv1, h1⟩ := bnd_some h
  refine rn_getI (pc := 1) (k := 1) okX12 (by decide) tw_994 rfl dX12_weightOn_1 hv1 ?_
  rcases if_elim h1 with ⟨c2, h2⟩ | ⟨c2, h2⟩
  · refine rn_zne_f (pc := 4) 9 dX12_weightOn_4 (by decide) c2 ?_
    refine rn_iconst (pc := 7) (v := 1) dX12_weightOn_7 (by decide) ?_
    cases h2
    exact rn_iret (pc := 8) rfl dX12_weightOn_8
  · refine rn_zne_t (pc := 4) (tgt := 9) dX12_weightOn_4 (by decide) c2 ?_
    refine rn_iconst (pc := 9) (v := 0) dX12_weightOn_9 (by decide) ?_
    refine rn_istore_n (pc := 10) (lv' := [(3, .int (0 : Int32)), (0, rv (some t0)), (1, .int p1), (2, .int p2)]) dX12_weightOn_10 rfl (by decide) rfl ?_
    refine rn_iconst (pc := 11) (v := 0) dX12_weightOn_11 (by decide) ?_
    refine rn_istore (pc := 12) (lv' := [(4, .int (0 : Int32)), (3, .int (0 : Int32)), (0, rv (some t0)), (1, .int p1), (2, .int p2)]) dX12_weightOn_12 (by decide) rfl ?_
    refine rn_iconst (pc := 14) (v := 0) dX12_weightOn_14 (by decide) ?_
    refine rn_istore (pc := 15) (lv' := [(5, .int (0 : Int32)), (4, .int (0 : Int32)), (3, .int (0 : Int32)), (0, rv (some t0)), (1, .int p1), (2, .int p2)]) dX12_weightOn_15 (by decide) rfl ?_
    obtain ⟨r22, hr22, h3⟩ := bnd_some h2
    refine rn_sub [3, 4, 5, 2, 1, 0] rfl (lX12_weightOn_17 hr22 ?_)
    refine rn_iload_n (pc := 86) 0 dX12_weightOn_86 rfl rfl ?_
    rcases if_elim h3 with ⟨c23, h4⟩ | ⟨c23, h4⟩
    · refine rn_zeq_t (pc := 87) (tgt := 96) dX12_weightOn_87 (by decide) c23 ?_
      refine rn_iconst (pc := 96) (v := 1) dX12_weightOn_96 (by decide) ?_
      refine rn_goto (pc := 97) (tgt := 115) dX12_weightOn_97 (by decide) ?_
      cases h4
      exact rn_iret (pc := 115) rfl dX12_weightOn_115
    · refine rn_zeq_f (pc := 87) 96 dX12_weightOn_87 (by decide) c23 ?_
      refine rn_iload (pc := 90) 1 dX12_weightOn_90 rfl ?_
      refine rn_iload_n (pc := 92) 0 dX12_weightOn_92 rfl rfl ?_
      rcases if_elim h4 with ⟨c24, h5⟩ | ⟨c24, h5⟩
      · refine rn_ile_f (pc := 93) 100 dX12_weightOn_93 (by decide) c24 ?_
        refine rn_iconst (pc := 96) (v := 1) dX12_weightOn_96 (by decide) ?_
        refine rn_goto (pc := 97) (tgt := 115) dX12_weightOn_97 (by decide) ?_
        cases h5
        exact rn_iret (pc := 115) rfl dX12_weightOn_115
      · refine rn_ile_t (pc := 93) (tgt := 100) dX12_weightOn_93 (by decide) c24 ?_
        refine rn_iconst (pc := 100) (v := 1) dX12_weightOn_100 (by decide) ?_
        refine rn_ldc2 (pc := 101) tw_1344 dX12_weightOn_101 ?_
        refine rn_iload_n (pc := 104) 0 dX12_weightOn_104 rfl rfl ?_
        refine rn_iload (pc := 105) 1 dX12_weightOn_105 rfl ?_
        refine rn_isub (pc := 107) dX12_weightOn_107 ?_
        refine rn_i2l (pc := 108) dX12_weightOn_108 ?_
        refine rn_lmul (pc := 109) dX12_weightOn_109 ?_
        refine rn_iload_n (pc := 110) 0 dX12_weightOn_110 rfl rfl ?_
        refine rn_i2l (pc := 111) dX12_weightOn_111 ?_
        obtain ⟨z25, hz25, h6⟩ := bnd_some h5
        have hz25 := (nz64_elim hz25).2
        refine rn_ldiv (pc := 112) dX12_weightOn_112 hz25 ?_
        refine rn_l2i (pc := 113) dX12_weightOn_113 ?_
        refine rn_iadd (pc := 114) dX12_weightOn_114 ?_
        cases h6
        exact rn_iret (pc := 115) rfl dX12_weightOn_115
theorem eX12_weightOn {l : Launch} {G : Gt} {d : Nat} {t0 : Nat} {p1 : Int32} {p2 : Int32} {u : Mem} {y : Int32} (h : fX12_weightOn t0 p1 p2 u = some y) : Ex l G iX12_weightOn (d + 2) [rv (some t0), .int p1, .int p2] u (.returned (some (.int y))) u := Ex.of (by decide +kernel) (by decide) (Nat.le_of_ble_eq_true rfl) rfl (tX12_weightOn h)
theorem tX12_weight {l : Launch} {G : Gt} {d : Nat} {t0 : Nat} {p1 : Int32} {p2 : Int32} {u : Mem} {y : Int32 × Mem} (h : fX12_weight t0 p1 p2 u = some y) : Rn l G iX12_weight (d + 5) 0 [(0, rv (some t0)), (1, .int p1), (2, .int p2)] [] u (.returned (some (.int y.1))) y.2 := by
  unfold fX12_weight at h
  refine rn_iload_n (pc := 0) 1 dX12_weight_0 rfl rfl ?_
  obtain ⟨v1, hv1, h1⟩ := bnd_some h
  refine rn_callS (pc := 1) (n := 1) (As := [.int p1]) (rest := []) (eX12_isGuesser (d := d + 3) hv1) (by omega) tw_1251 tw_79 tw_1249 tw_1250 (by decide +kernel) rfl (Nat.le_of_ble_eq_true rfl) dX12_weight_1 rfl ?_
  rcases if_elim h1 with ⟨c2, h2⟩ | ⟨c2, h2⟩
  · refine rn_zeq_t (pc := 4) (tgt := 14) dX12_weight_4 (by decide) c2 ?_
    refine rn_bipush (pc := 14) (v := -2) dX12_weight_14 (by decide) ?_
    cases h2
    exact rn_iret (pc := 16) rfl dX12_weight_16
  · refine rn_zeq_f (pc := 4) 14 dX12_weight_4 (by decide) c2 ?_
    refine rn_iload_n (pc := 7) 2 dX12_weight_7 rfl rfl ?_
    obtain ⟨v3, hv3, h3⟩ := bnd_some h2
    refine rn_callS (pc := 8) (n := 1) (As := [.int p2]) (rest := []) (eX12_isDay (d := d + 3) hv3) (by omega) tw_1235 tw_79 tw_1233 tw_1234 (by decide +kernel) rfl (Nat.le_of_ble_eq_true rfl) dX12_weight_8 rfl ?_
    rcases if_elim h3 with ⟨c4, h4⟩ | ⟨c4, h4⟩
    · refine rn_zne_f (pc := 11) 17 dX12_weight_11 (by decide) c4 ?_
      refine rn_bipush (pc := 14) (v := -2) dX12_weight_14 (by decide) ?_
      cases h4
      exact rn_iret (pc := 16) rfl dX12_weight_16
    · refine rn_zne_t (pc := 11) (tgt := 17) dX12_weight_11 (by decide) c4 ?_
      refine rn_aload_n (pc := 17) 0 dX12_weight_17 rfl rfl ?_
      obtain ⟨b5, hb5, h5⟩ := bnd_some h4
      obtain ⟨qb5, kb5⟩ := chk_elim hb5
      cases qb5
      obtain ⟨u6, hu6, h6⟩ := bnd_some h5
      refine rn_callV (pc := 18) (n := 0) (As := []) (rest := []) (eX12_prepare (d := d + 0) hu6) (by omega) okX12 kb5 tw_1270 tw_79 tw_1268 tw_1269 tw_45 (by decide +kernel) rfl (Nat.le_of_ble_eq_true rfl) dX12_weight_18 rfl ?_
      refine rn_aload_n (pc := 21) 0 dX12_weight_21 rfl rfl ?_
      refine rn_iload_n (pc := 22) 1 dX12_weight_22 rfl rfl ?_
      refine rn_iload_n (pc := 23) 2 dX12_weight_23 rfl rfl ?_
      obtain ⟨b7, hb7, h7⟩ := bnd_some h6
      obtain ⟨qb7, kb7⟩ := chk_elim hb7
      cases qb7
      obtain ⟨v8, hv8, h8⟩ := bnd_some h7
      refine rn_callV (pc := 24) (n := 2) (As := [.int p1, .int p2]) (rest := []) (eX12_weightOn (d := d + 2) hv8) (by omega) okX12 kb7 tw_1343 tw_79 tw_1341 tw_1342 tw_59 (by decide +kernel) rfl (Nat.le_of_ble_eq_true rfl) dX12_weight_24 rfl ?_
      cases h8
      exact rn_iret (pc := 27) rfl dX12_weight_27
theorem eX12_weight {l : Launch} {G : Gt} {d : Nat} {t0 : Nat} {p1 : Int32} {p2 : Int32} {u : Mem} {y : Int32 × Mem} (h : fX12_weight t0 p1 p2 u = some y) : Ex l G iX12_weight (d + 5) [rv (some t0), .int p1, .int p2] u (.returned (some (.int y.1))) y.2 := Ex.of (by decide +kernel) (by decide) (Nat.le_of_ble_eq_true rfl) rfl (tX12_weight h)
theorem btX12_isCopier_13 {l : Launch} {G : Gt} {d : Nat} {t0 : Nat} {i1 : Int32} {i2 : Int32} {i3 : Int32} {u : Mem} {s4 : Int32} {y : (Int32) ⊕ ((Unit) ⊕ (Unit))} {o : Outcome} {u' : Mem} (h : bX12_isCopier_13 t0 i1 i2 i3 u s4 = some y) (k0 : ∀ s' : Int32, y = .inl s' → Rn l G iX12_isCopier (d + 2) 13 [(0, rv (some t0)), (1, .int i1), (2, .int i2), (3, .int i3), (4, .int s')] [] u o u') (k1 : ∀ r : Unit, y = .inr (.inl r) → Rn l G iX12_isCopier (d + 2) 61 [] [] u o u') (k2 : ∀ r : Unit, y = .inr (.inr (r)) → Rn l G iX12_isCopier (d + 2) 53 [] [] u o u') : Rn l G iX12_isCopier (d + 2) 13 [(0, rv (some t0)), (1, .int i1), (2, .int i2), (3, .int i3), (4, .int s4)] [] u o u' := by
  unfold bX12_isCopier_13 at h
  refine rn_iload (pc := 13) 4 dX12_isCopier_13 rfl ?_
  refine rn_bipush (pc := 15) (v := 20) dX12_isCopier_15 (by decide) ?_
  rcases if_elim h with ⟨c3, h1⟩ | ⟨c3, h1⟩
  · refine rn_ige_f (pc := 17) 61 dX12_isCopier_17 (by decide) c3 ?_
    refine rn_iload (pc := 20) 4 dX12_isCopier_20 rfl ?_
    refine rn_iload_n (pc := 22) 1 dX12_isCopier_22 rfl rfl ?_
    rcases if_elim h1 with ⟨c4, h2⟩ | ⟨c4, h2⟩
    · refine rn_ieq_t (pc := 23) (tgt := 55) dX12_isCopier_23 (by decide) c4 ?_
      obtain ⟨x5, ex5, h3⟩ := nm_elim h2
      refine rn_iinc (pc := 55) (v := x5) (lv' := [(4, .int x5), (0, rv (some t0)), (1, .int i1), (2, .int i2), (3, .int i3)]) 4 dX12_isCopier_55 rfl (by rw [ex5]; rfl) (by decide) rfl ?_
      refine rn_goto (pc := 58) (tgt := 13) dX12_isCopier_58 (by decide) ?_
      cases h3
      exact rn_sub [1, 2, 3, 4, 0] rfl (k0 _ rfl)
    · refine rn_ieq_f (pc := 23) 55 dX12_isCopier_23 (by decide) c4 ?_
      refine rn_aload_n (pc := 26) 0 dX12_isCopier_26 rfl rfl ?_
      refine rn_iload (pc := 27) 4 dX12_isCopier_27 rfl ?_
      refine rn_iload_n (pc := 29) 2 dX12_isCopier_29 rfl rfl ?_
      refine rn_iload_n (pc := 30) 3 dX12_isCopier_30 rfl rfl ?_
      obtain ⟨b6, hb6, h4⟩ := bnd_some h2
      obtain ⟨qb6, kb6⟩ := chk_elim hb6
      cases qb6
      obtain ⟨v7, hv7, h5⟩ := bnd_some h4
      refine rn_callV (pc := 31) (n := 3) (As := [.int s4, .int i2, .int i3]) (rest := []) (eX12_heldAt (d := d + 0) hv7) (by omega) okX12 kb6 tw_1289 tw_79 tw_1287 tw_1288 tw_50 (by decide +kernel) rfl (Nat.le_of_ble_eq_true rfl) dX12_isCopier_31 rfl ?_
      refine rn_iconst (pc := 34) (v := -1) dX12_isCopier_34 (by decide) ?_
      rcases if_elim h5 with ⟨c8, h6⟩ | ⟨c8, h6⟩
      · refine rn_ieq_t (pc := 35) (tgt := 55) dX12_isCopier_35 (by decide) c8 ?_
        obtain ⟨x9, ex9, h7⟩ := nm_elim h6
        refine rn_iinc (pc := 55) (v := x9) (lv' := [(4, .int x9), (0, rv (some t0)), (1, .int i1), (2, .int i2), (3, .int i3)]) 4 dX12_isCopier_55 rfl (by rw [ex9]; rfl) (by decide) rfl ?_
        refine rn_goto (pc := 58) (tgt := 13) dX12_isCopier_58 (by decide) ?_
        cases h7
        exact rn_sub [1, 2, 3, 4, 0] rfl (k0 _ rfl)
      · refine rn_ieq_f (pc := 35) 55 dX12_isCopier_35 (by decide) c8 ?_
        refine rn_aload_n (pc := 38) 0 dX12_isCopier_38 rfl rfl ?_
        refine rn_iload_n (pc := 39) 1 dX12_isCopier_39 rfl rfl ?_
        refine rn_iload (pc := 40) 4 dX12_isCopier_40 rfl ?_
        refine rn_iload_n (pc := 42) 3 dX12_isCopier_42 rfl rfl ?_
        obtain ⟨b10, hb10, h8⟩ := bnd_some h6
        obtain ⟨qb10, kb10⟩ := chk_elim hb10
        cases qb10
        obtain ⟨v11, hv11, h9⟩ := bnd_some h8
        refine rn_callV (pc := 43) (n := 3) (As := [.int i1, .int s4, .int i3]) (rest := []) (eX12_copiesOf (d := d + 1) hv11) (by omega) okX12 kb10 tw_1336 tw_79 tw_1334 tw_1335 tw_58 (by decide +kernel) rfl (Nat.le_of_ble_eq_true rfl) dX12_isCopier_43 rfl ?_
        refine rn_aload_n (pc := 46) 0 dX12_isCopier_46 rfl rfl ?_
        obtain ⟨v12, hv12, h10⟩ := bnd_some h9
        refine rn_getI (pc := 47) (k := 3) okX12 (by decide) tw_996 rfl dX12_isCopier_47 hv12 ?_
        rcases if_elim h10 with ⟨c13, h11⟩ | ⟨c13, h11⟩
        · refine rn_ilt_t (pc := 50) (tgt := 55) dX12_isCopier_50 (by decide) c13 ?_
          obtain ⟨x14, ex14, h12⟩ := nm_elim h11
          refine rn_iinc (pc := 55) (v := x14) (lv' := [(4, .int x14), (0, rv (some t0)), (1, .int i1), (2, .int i2), (3, .int i3)]) 4 dX12_isCopier_55 rfl (by rw [ex14]; rfl) (by decide) rfl ?_
          refine rn_goto (pc := 58) (tgt := 13) dX12_isCopier_58 (by decide) ?_
          cases h12
          exact rn_sub [1, 2, 3, 4, 0] rfl (k0 _ rfl)
        · refine rn_ilt_f (pc := 50) 55 dX12_isCopier_50 (by decide) c13 ?_
          cases h11
          exact rn_sub [] rfl (k2 _ rfl)
  · refine rn_ige_t (pc := 17) (tgt := 61) dX12_isCopier_17 (by decide) c3 ?_
    cases h1
    exact rn_sub [] rfl (k1 _ rfl)
theorem lX12_isCopier_13 {l : Launch} {G : Gt} {d : Nat} {t0 : Nat} {i1 : Int32} {i2 : Int32} {i3 : Int32} {u : Mem} {N : Nat} {s0 : Int32} {r : (Unit) ⊕ (Unit)} {o : Outcome} {u' : Mem} (h : lp (fun s : Int32 => bX12_isCopier_13 t0 i1 i2 i3 u s) N s0 = some r) (k1 : ∀ r' : Unit, r = .inl r' → Rn l G iX12_isCopier (d + 2) 61 [] [] u o u') (k2 : ∀ r' : Unit, r = .inr (r') → Rn l G iX12_isCopier (d + 2) 53 [] [] u o u') : Rn l G iX12_isCopier (d + 2) 13 [(0, rv (some t0)), (1, .int i1), (2, .int i2), (3, .int i3), (4, .int s0)] [] u o u' :=
  lp_run (P := fun s : Int32 => Rn l G iX12_isCopier (d + 2) 13 [(0, rv (some t0)), (1, .int i1), (2, .int i2), (3, .int i3), (4, .int s)] [] u o u') (E := fun r => (∀ r' : Unit, r = .inl r' → Rn l G iX12_isCopier (d + 2) 61 [] [] u o u') ∧ (∀ r' : Unit, r = .inr (r') → Rn l G iX12_isCopier (d + 2) 53 [] [] u o u')) (fun s y hy k0 kE => btX12_isCopier_13 hy (fun s' e => k0 s' e) (fun r e => (kE _ e).1 r rfl) (fun r e => (kE _ e).2 r rfl)) N s0 r h ⟨k1, k2⟩
theorem tX12_isCopier {l : Launch} {G : Gt} {d : Nat} {t0 : Nat} {p1 : Int32} {p2 : Int32} {p3 : Int32} {u : Mem} {y : Int32} (h : fX12_isCopier t0 p1 p2 p3 u = some y) : Rn l G iX12_isCopier (d + 2) 0 [(0, rv (some t0)), (1, .int p1), (2, .int p2), (3, .int p3)] [] u (.returned (some (.int y))) u := by
  unfold fX12_isCopier at h
  refine rn_aload_n (pc := 0) 0 dX12_isCopier_0 rfl rfl ?_
  obtain ⟨v1, hv1, h1⟩ := bnd_some h
  refine rn_getI (pc := 1) (k := 2) okX12 (by decide) tw_995 rfl dX12_isCopier_1 hv1 ?_
  refine rn_iconst (pc := 4) (v := -1) dX12_isCopier_4 (by decide) ?_
  rcases if_elim h1 with ⟨c2, h2⟩ | ⟨c2, h2⟩
  · refine rn_ine_f (pc := 5) 10 dX12_isCopier_5 (by decide) c2 ?_
    refine rn_iconst (pc := 8) (v := 0) dX12_isCopier_8 (by decide) ?_
    cases h2
    exact rn_zret (pc := 9) (by decide) rfl dX12_isCopier_9
  · refine rn_ine_t (pc := 5) (tgt := 10) dX12_isCopier_5 (by decide) c2 ?_
    refine rn_iconst (pc := 10) (v := 0) dX12_isCopier_10 (by decide) ?_
    refine rn_istore (pc := 11) (lv' := [(4, .int (0 : Int32)), (0, rv (some t0)), (1, .int p1), (2, .int p2), (3, .int p3)]) dX12_isCopier_11 (by decide) rfl ?_
    obtain ⟨r15, hr15, h3⟩ := bnd_some h2
    rcases r15 with r16 | r17
    · refine rn_sub [1, 2, 3, 4, 0] rfl (lX12_isCopier_13 hr15 (fun _ hq => ?_) (fun _ hq => by cases hq))
      cases hq
      have h4 := sumE_l h3
      refine rn_iconst (pc := 61) (v := 0) dX12_isCopier_61 (by decide) ?_
      cases h4
      exact rn_zret (pc := 62) (by decide) rfl dX12_isCopier_62
    · refine rn_sub [1, 2, 3, 4, 0] rfl (lX12_isCopier_13 hr15 (fun _ hq => by cases hq) (fun _ hq => ?_))
      cases hq
      have h5 := sumE_r h3
      refine rn_iconst (pc := 53) (v := 1) dX12_isCopier_53 (by decide) ?_
      cases h5
      exact rn_zret (pc := 54) (by decide) rfl dX12_isCopier_54
theorem eX12_isCopier {l : Launch} {G : Gt} {d : Nat} {t0 : Nat} {p1 : Int32} {p2 : Int32} {p3 : Int32} {u : Mem} {y : Int32} (h : fX12_isCopier t0 p1 p2 p3 u = some y) : Ex l G iX12_isCopier (d + 2) [rv (some t0), .int p1, .int p2, .int p3] u (.returned (some (.int y))) u := Ex.of (by decide +kernel) (by decide) (Nat.le_of_ble_eq_true rfl) rfl (tX12_isCopier h)
theorem btX12_joinedOn_5 {l : Launch} {G : Gt} {d : Nat} {t0 : Nat} {i1 : Int32} {i2 : Int32} {i3 : Int32} {s4 : Int32} {u : Mem} {y : (Int32 × Mem) ⊕ (Mem)} {o : Outcome} {u' : Mem} (h : bX12_joinedOn_5 t0 i1 i2 i3 s4 u = some y) (k0 : ∀ s' : Int32 × Mem, y = .inl s' → Rn l G iX12_joinedOn (d + 3) 5 [(0, rv (some t0)), (1, .int i1), (2, .int i2), (3, .int i3), (4, .int s'.1)] [] s'.2 o u') (k1 : ∀ r : Mem, y = .inr (r) → Rn l G iX12_joinedOn (d + 3) 26 [(0, rv (some t0)), (1, .int i1), (2, .int i2), (3, .int i3)] [] r o u') : Rn l G iX12_joinedOn (d + 3) 5 [(0, rv (some t0)), (1, .int i1), (2, .int i2), (3, .int i3), (4, .int s4)] [] u o u' := by
  unfold bX12_joinedOn_5 at h
  refine rn_iload (pc := 5) 4 dX12_joinedOn_5 rfl ?_
  refine rn_bipush (pc := 7) (v := 11) dX12_joinedOn_7 (by decide) ?_
  rcases if_elim h with ⟨c1, h1⟩ | ⟨c1, h1⟩
  · refine rn_ige_f (pc := 9) 26 dX12_joinedOn_9 (by decide) c1 ?_
    refine rn_aload_n (pc := 12) 0 dX12_joinedOn_12 rfl rfl ?_
    obtain ⟨v2, hv2, h2⟩ := bnd_some h1
    refine rn_getR (pc := 13) (k := 49) okX12 (by decide) tw_1042 rfl dX12_joinedOn_13 hv2 ?_
    refine rn_iload (pc := 16) 4 dX12_joinedOn_16 rfl ?_
    refine rn_iconst (pc := 18) (v := 0) dX12_joinedOn_18 (by decide) ?_
    obtain ⟨u3, hu3, h3⟩ := bnd_some h2
    refine rn_iast (pc := 19) dX12_joinedOn_19 hu3 ?_
    obtain ⟨x4, ex4, h4⟩ := nm_elim h3
    refine rn_iinc (pc := 20) (v := x4) (lv' := [(4, .int x4), (0, rv (some t0)), (1, .int i1), (2, .int i2), (3, .int i3)]) 4 dX12_joinedOn_20 rfl (by rw [ex4]; rfl) (by decide) rfl ?_
    refine rn_goto (pc := 23) (tgt := 5) dX12_joinedOn_23 (by decide) ?_
    cases h4
    exact rn_sub [1, 2, 3, 4, 0] rfl (k0 _ rfl)
  · refine rn_ige_t (pc := 9) (tgt := 26) dX12_joinedOn_9 (by decide) c1 ?_
    cases h1
    exact rn_sub [0, 1, 2, 3] rfl (k1 _ rfl)
theorem lX12_joinedOn_5 {l : Launch} {G : Gt} {d : Nat} {t0 : Nat} {i1 : Int32} {i2 : Int32} {i3 : Int32} {N : Nat} {s0 : Int32 × Mem} {r : Mem} {o : Outcome} {u' : Mem} (h : lp (fun s : Int32 × Mem => bX12_joinedOn_5 t0 i1 i2 i3 s.1 s.2) N s0 = some r) (k1 : Rn l G iX12_joinedOn (d + 3) 26 [(0, rv (some t0)), (1, .int i1), (2, .int i2), (3, .int i3)] [] r o u') : Rn l G iX12_joinedOn (d + 3) 5 [(0, rv (some t0)), (1, .int i1), (2, .int i2), (3, .int i3), (4, .int s0.1)] [] s0.2 o u' :=
  lp_run (P := fun s : Int32 × Mem => Rn l G iX12_joinedOn (d + 3) 5 [(0, rv (some t0)), (1, .int i1), (2, .int i2), (3, .int i3), (4, .int s.1)] [] s.2 o u') (E := fun r => Rn l G iX12_joinedOn (d + 3) 26 [(0, rv (some t0)), (1, .int i1), (2, .int i2), (3, .int i3)] [] r o u') (fun s y hy k0 kE => btX12_joinedOn_5 hy (fun s' e => k0 s' e) (fun r e => kE r e)) N s0 r h k1
theorem btX12_joinedOn_29 {l : Launch} {G : Gt} {d : Nat} {t0 : Nat} {i1 : Int32} {i2 : Int32} {s3 : Int32} {s4 : Int32} {u : Mem} {y : (Int32 × Int32 × Mem) ⊕ (Int32 × Mem)} {o : Outcome} {u' : Mem} (h : bX12_joinedOn_29 t0 i1 i2 s3 s4 u = some y) (k0 : ∀ s' : Int32 × Int32 × Mem, y = .inl s' → Rn l G iX12_joinedOn (d + 3) 29 [(0, rv (some t0)), (1, .int i1), (2, .int i2), (3, .int s'.1), (4, .int s'.2.1)] [] s'.2.2 o u') (k1 : ∀ r : Int32 × Mem, y = .inr (r) → Rn l G iX12_joinedOn (d + 3) 98 [(0, rv (some t0)), (3, .int r.1)] [] r.2 o u') : Rn l G iX12_joinedOn (d + 3) 29 [(0, rv (some t0)), (1, .int i1), (2, .int i2), (3, .int s3), (4, .int s4)] [] u o u' := by
  unfold bX12_joinedOn_29 at h
  refine rn_iload (pc := 29) 4 dX12_joinedOn_29 rfl ?_
  refine rn_bipush (pc := 31) (v := 20) dX12_joinedOn_31 (by decide) ?_
  rcases if_elim h with ⟨c6, h1⟩ | ⟨c6, h1⟩
  · refine rn_ige_f (pc := 33) 98 dX12_joinedOn_33 (by decide) c6 ?_
    refine rn_aload_n (pc := 36) 0 dX12_joinedOn_36 rfl rfl ?_
    refine rn_iload (pc := 37) 4 dX12_joinedOn_37 rfl ?_
    refine rn_iload_n (pc := 39) 1 dX12_joinedOn_39 rfl rfl ?_
    refine rn_iload_n (pc := 40) 2 dX12_joinedOn_40 rfl rfl ?_
    obtain ⟨b7, hb7, h2⟩ := bnd_some h1
    obtain ⟨qb7, kb7⟩ := chk_elim hb7
    cases qb7
    obtain ⟨v8, hv8, h3⟩ := bnd_some h2
    refine rn_callV (pc := 41) (n := 3) (As := [.int s4, .int i1, .int i2]) (rest := []) (eX12_heldAt (d := d + 1) hv8) (by omega) okX12 kb7 tw_1289 tw_79 tw_1287 tw_1288 tw_50 (by decide +kernel) rfl (Nat.le_of_ble_eq_true rfl) dX12_joinedOn_41 rfl ?_
    refine rn_istore (pc := 44) (lv' := [(5, .int v8), (0, rv (some t0)), (1, .int i1), (2, .int i2), (3, .int s3), (4, .int s4)]) dX12_joinedOn_44 (by decide) rfl ?_
    refine rn_iload (pc := 46) 0 dX12_joinedOn_46 rfl ?_
    refine rn_iconst (pc := 48) (v := -1) dX12_joinedOn_48 (by decide) ?_
    rcases if_elim h3 with ⟨c9, h4⟩ | ⟨c9, h4⟩
    · refine rn_ieq_t (pc := 49) (tgt := 92) dX12_joinedOn_49 (by decide) c9 ?_
      obtain ⟨x10, ex10, h5⟩ := nm_elim h4
      refine rn_iinc (pc := 92) (v := x10) (lv' := [(4, .int x10), (5, .int v8), (0, rv (some t0)), (1, .int i1), (2, .int i2), (3, .int s3)]) 5 dX12_joinedOn_92 rfl (by rw [ex10]; rfl) (by decide) rfl ?_
      refine rn_goto (pc := 95) (tgt := 29) dX12_joinedOn_95 (by decide) ?_
      cases h5
      exact rn_sub [2, 3, 4, 5, 0] rfl (k0 _ rfl)
    · refine rn_ieq_f (pc := 49) 92 dX12_joinedOn_49 (by decide) c9 ?_
      refine rn_aload_n (pc := 52) 1 dX12_joinedOn_52 rfl rfl ?_
      refine rn_iload (pc := 53) 5 dX12_joinedOn_53 rfl ?_
      refine rn_iload_n (pc := 55) 2 dX12_joinedOn_55 rfl rfl ?_
      refine rn_iload_n (pc := 56) 3 dX12_joinedOn_56 rfl rfl ?_
      obtain ⟨b11, hb11, h6⟩ := bnd_some h4
      obtain ⟨qb11, kb11⟩ := chk_elim hb11
      cases qb11
      obtain ⟨v12, hv12, h7⟩ := bnd_some h6
      refine rn_callV (pc := 57) (n := 3) (As := [.int s4, .int i1, .int i2]) (rest := []) (eX12_isCopier (d := d + 0) hv12) (by omega) okX12 kb11 tw_1357 tw_79 tw_1355 tw_1356 tw_62 (by decide +kernel) rfl (Nat.le_of_ble_eq_true rfl) dX12_joinedOn_57 rfl ?_
      rcases if_elim h7 with ⟨c13, h8⟩ | ⟨c13, h8⟩
      · refine rn_zeq_t (pc := 60) (tgt := 66) dX12_joinedOn_60 (by decide) c13 ?_
        refine rn_aload_n (pc := 66) 1 dX12_joinedOn_66 rfl rfl ?_
        refine rn_iload (pc := 67) 5 dX12_joinedOn_67 rfl ?_
        refine rn_iload_n (pc := 69) 3 dX12_joinedOn_69 rfl rfl ?_
        obtain ⟨b14, hb14, h9⟩ := bnd_some h8
        obtain ⟨qb14, kb14⟩ := chk_elim hb14
        cases qb14
        obtain ⟨v15, hv15, h10⟩ := bnd_some h9
        refine rn_callV (pc := 70) (n := 2) (As := [.int s4, .int i2]) (rest := []) (eX12_weightOn (d := d + 0) hv15) (by omega) okX12 kb14 tw_1343 tw_79 tw_1341 tw_1342 tw_59 (by decide +kernel) rfl (Nat.le_of_ble_eq_true rfl) dX12_joinedOn_70 rfl ?_
        refine rn_istore (pc := 73) (lv' := [(6, .int v15), (5, .int v8), (0, rv (some t0)), (1, .int i1), (2, .int i2), (3, .int s3), (4, .int s4)]) dX12_joinedOn_73 (by decide) rfl ?_
        refine rn_aload_n (pc := 75) 2 dX12_joinedOn_75 rfl rfl ?_
        obtain ⟨v16, hv16, h11⟩ := bnd_some h10
        refine rn_getR (pc := 76) (k := 49) okX12 (by decide) tw_1042 rfl dX12_joinedOn_76 hv16 ?_
        refine rn_iload (pc := 79) 1 dX12_joinedOn_79 rfl ?_
        refine rn_dup2 (pc := 81) dX12_joinedOn_81 rfl (rv_cat _) ?_
        obtain ⟨v17, hv17, h12⟩ := bnd_some h11
        refine rn_iald (pc := 82) dX12_joinedOn_82 hv17 ?_
        refine rn_iload (pc := 83) 0 dX12_joinedOn_83 rfl ?_
        refine rn_iadd (pc := 85) dX12_joinedOn_85 ?_
        obtain ⟨u18, hu18, h13⟩ := bnd_some h12
        refine rn_iast (pc := 86) dX12_joinedOn_86 hu18 ?_
        refine rn_iload_n (pc := 87) 5 dX12_joinedOn_87 rfl rfl ?_
        refine rn_iload (pc := 88) 0 dX12_joinedOn_88 rfl ?_
        refine rn_iadd (pc := 90) dX12_joinedOn_90 ?_
        obtain ⟨x19, ex19, h14⟩ := nm_elim h13
        refine rn_topi ex19 ?_
        refine rn_istore_n (pc := 91) (lv' := [(3, .int x19), (6, .int v15), (5, .int v8), (0, rv (some t0)), (1, .int i1), (2, .int i2), (4, .int s4)]) dX12_joinedOn_91 rfl (by decide) rfl ?_
        obtain ⟨x20, ex20, h15⟩ := nm_elim h14
        refine rn_iinc (pc := 92) (v := x20) (lv' := [(4, .int x20), (3, .int x19), (6, .int v15), (5, .int v8), (0, rv (some t0)), (1, .int i1), (2, .int i2)]) 6 dX12_joinedOn_92 rfl (by rw [ex20]; rfl) (by decide) rfl ?_
        refine rn_goto (pc := 95) (tgt := 29) dX12_joinedOn_95 (by decide) ?_
        cases h15
        exact rn_sub [4, 5, 6, 1, 0] rfl (k0 _ rfl)
      · refine rn_zeq_f (pc := 60) 66 dX12_joinedOn_60 (by decide) c13 ?_
        refine rn_goto (pc := 63) (tgt := 92) dX12_joinedOn_63 (by decide) ?_
        obtain ⟨x21, ex21, h16⟩ := nm_elim h8
        refine rn_iinc (pc := 92) (v := x21) (lv' := [(4, .int x21), (5, .int v8), (0, rv (some t0)), (1, .int i1), (2, .int i2), (3, .int s3)]) 5 dX12_joinedOn_92 rfl (by rw [ex21]; rfl) (by decide) rfl ?_
        refine rn_goto (pc := 95) (tgt := 29) dX12_joinedOn_95 (by decide) ?_
        cases h16
        exact rn_sub [2, 3, 4, 5, 0] rfl (k0 _ rfl)
  · refine rn_ige_t (pc := 33) (tgt := 98) dX12_joinedOn_33 (by decide) c6 ?_
    cases h1
    exact rn_sub [0, 3] rfl (k1 _ rfl)
theorem lX12_joinedOn_29 {l : Launch} {G : Gt} {d : Nat} {t0 : Nat} {i1 : Int32} {i2 : Int32} {N : Nat} {s0 : Int32 × Int32 × Mem} {r : Int32 × Mem} {o : Outcome} {u' : Mem} (h : lp (fun s : Int32 × Int32 × Mem => bX12_joinedOn_29 t0 i1 i2 s.1 s.2.1 s.2.2) N s0 = some r) (k1 : Rn l G iX12_joinedOn (d + 3) 98 [(0, rv (some t0)), (3, .int r.1)] [] r.2 o u') : Rn l G iX12_joinedOn (d + 3) 29 [(0, rv (some t0)), (1, .int i1), (2, .int i2), (3, .int s0.1), (4, .int s0.2.1)] [] s0.2.2 o u' :=
  lp_run (P := fun s : Int32 × Int32 × Mem => Rn l G iX12_joinedOn (d + 3) 29 [(0, rv (some t0)), (1, .int i1), (2, .int i2), (3, .int s.1), (4, .int s.2.1)] [] s.2.2 o u') (E := fun r => Rn l G iX12_joinedOn (d + 3) 98 [(0, rv (some t0)), (3, .int r.1)] [] r.2 o u') (fun s y hy k0 kE => btX12_joinedOn_29 hy (fun s' e => k0 s' e) (fun r e => kE r e)) N s0 r h k1
theorem btX12_joinedOn_115 {l : Launch} {G : Gt} {d : Nat} {t0 : Nat} {i3 : Int32} {u : Mem} {s4 : Int32} {s5 : Int32} {y : (Int32 × Int32) ⊕ (Int32)} {o : Outcome} {u' : Mem} (h : bX12_joinedOn_115 t0 i3 u s4 s5 = some y) (k0 : ∀ s' : Int32 × Int32, y = .inl s' → Rn l G iX12_joinedOn (d + 3) 115 [(0, rv (some t0)), (3, .int i3), (4, .int s'.1), (5, .int s'.2)] [] u o u') (k1 : ∀ r : Int32, y = .inr (r) → Rn l G iX12_joinedOn (d + 3) 141 [(4, .int r)] [] u o u') : Rn l G iX12_joinedOn (d + 3) 115 [(0, rv (some t0)), (3, .int i3), (4, .int s4), (5, .int s5)] [] u o u' := by
  unfold bX12_joinedOn_115 at h
  refine rn_iconst (pc := 115) (v := 2) dX12_joinedOn_115 (by decide) ?_
  refine rn_iload (pc := 116) 3 dX12_joinedOn_116 rfl ?_
  refine rn_imul (pc := 118) dX12_joinedOn_118 ?_
  refine rn_iload_n (pc := 119) 1 dX12_joinedOn_119 rfl rfl ?_
  rcases if_elim h with ⟨c26, h1⟩ | ⟨c26, h1⟩
  · refine rn_ige_f (pc := 120) 141 dX12_joinedOn_120 (by decide) c26 ?_
    obtain ⟨x27, ex27, h2⟩ := nm_elim h1
    refine rn_iinc (pc := 123) (v := x27) (lv' := [(4, .int x27), (0, rv (some t0)), (3, .int i3), (5, .int s5)]) 2 dX12_joinedOn_123 rfl (by rw [ex27]; rfl) (by decide) rfl ?_
    refine rn_iload (pc := 126) 3 dX12_joinedOn_126 rfl ?_
    refine rn_aload_n (pc := 128) 1 dX12_joinedOn_128 rfl rfl ?_
    obtain ⟨v28, hv28, h3⟩ := bnd_some h2
    refine rn_getR (pc := 129) (k := 49) okX12 (by decide) tw_1042 rfl dX12_joinedOn_129 hv28 ?_
    refine rn_iload (pc := 132) 0 dX12_joinedOn_132 rfl ?_
    obtain ⟨v29, hv29, h4⟩ := bnd_some h3
    refine rn_iald (pc := 134) dX12_joinedOn_134 hv29 ?_
    refine rn_iadd (pc := 135) dX12_joinedOn_135 ?_
    obtain ⟨x30, ex30, h5⟩ := nm_elim h4
    refine rn_topi ex30 ?_
    refine rn_istore (pc := 136) (lv' := [(5, .int x30), (4, .int x27), (0, rv (some t0)), (3, .int i3)]) dX12_joinedOn_136 (by decide) rfl ?_
    refine rn_goto (pc := 138) (tgt := 115) dX12_joinedOn_138 (by decide) ?_
    cases h5
    exact rn_sub [2, 3, 1, 0] rfl (k0 _ rfl)
  · refine rn_ige_t (pc := 120) (tgt := 141) dX12_joinedOn_120 (by decide) c26 ?_
    cases h1
    exact rn_sub [2] rfl (k1 _ rfl)
theorem lX12_joinedOn_115 {l : Launch} {G : Gt} {d : Nat} {t0 : Nat} {i3 : Int32} {u : Mem} {N : Nat} {s0 : Int32 × Int32} {r : Int32} {o : Outcome} {u' : Mem} (h : lp (fun s : Int32 × Int32 => bX12_joinedOn_115 t0 i3 u s.1 s.2) N s0 = some r) (k1 : Rn l G iX12_joinedOn (d + 3) 141 [(4, .int r)] [] u o u') : Rn l G iX12_joinedOn (d + 3) 115 [(0, rv (some t0)), (3, .int i3), (4, .int s0.1), (5, .int s0.2)] [] u o u' :=
  lp_run (P := fun s : Int32 × Int32 => Rn l G iX12_joinedOn (d + 3) 115 [(0, rv (some t0)), (3, .int i3), (4, .int s.1), (5, .int s.2)] [] u o u') (E := fun r => Rn l G iX12_joinedOn (d + 3) 141 [(4, .int r)] [] u o u') (fun s y hy k0 kE => btX12_joinedOn_115 hy (fun s' e => k0 s' e) (fun r e => kE r e)) N s0 r h k1
theorem tX12_joinedOn {l : Launch} {G : Gt} {d : Nat} {t0 : Nat} {p1 : Int32} {p2 : Int32} {u : Mem} {y : Int32 × Mem} (h : fX12_joinedOn t0 p1 p2 u = some y) : Rn l G iX12_joinedOn (d + 3) 0 [(0, rv (some t0)), (1, .int p1), (2, .int p2)] [] u (.returned (some (.int y.1))) y.2 := by
  unfold fX12_joinedOn at h
  refine rn_iconst (pc := 0) (v := 0) dX12_joinedOn_0 (by decide) ?_
  refine rn_istore_n (pc := 1) (lv' := [(3, .int (0 : Int32)), (0, rv (some t0)), (1, .int p1), (2, .int p2)]) dX12_joinedOn_1 rfl (by decide) rfl ?_
  refine rn_iconst (pc := 2) (v := 0) dX12_joinedOn_2 (by decide) ?_
  refine rn_istore (pc := 3) (lv' := [(4, .int (0 : Int32)), (3, .int (0 : Int32)), (0, rv (some t0)), (1, .int p1), (2, .int p2)]) dX12_joinedOn_3 (by decide) rfl ?_
  obtain ⟨r5, hr5, h1⟩ := bnd_some h
  refine rn_sub [2, 3, 4, 1, 0] rfl (lX12_joinedOn_5 hr5 ?_)
  refine rn_iconst (pc := 26) (v := 0) dX12_joinedOn_26 (by decide) ?_
  refine rn_istore (pc := 27) (lv' := [(4, .int (0 : Int32)), (0, rv (some t0)), (1, .int p1), (2, .int p2), (3, .int (0 : Int32))]) dX12_joinedOn_27 (by decide) rfl ?_
  obtain ⟨r22, hr22, h2⟩ := bnd_some h1
  refine rn_sub [1, 2, 3, 4, 0] rfl (lX12_joinedOn_29 hr22 ?_)
  refine rn_iload_n (pc := 98) 1 dX12_joinedOn_98 rfl rfl ?_
  rcases if_elim h2 with ⟨c23, h3⟩ | ⟨c23, h3⟩
  · refine rn_zne_f (pc := 99) 104 dX12_joinedOn_99 (by decide) c23 ?_
    refine rn_iconst (pc := 102) (v := -1) dX12_joinedOn_102 (by decide) ?_
    cases h3
    exact rn_iret (pc := 103) rfl dX12_joinedOn_103
  · refine rn_zne_t (pc := 99) (tgt := 104) dX12_joinedOn_99 (by decide) c23 ?_
    refine rn_iconst (pc := 104) (v := 0) dX12_joinedOn_104 (by decide) ?_
    refine rn_istore (pc := 105) (lv' := [(4, .int (0 : Int32)), (0, rv (some t0)), (3, .int r22.1)]) dX12_joinedOn_105 (by decide) rfl ?_
    refine rn_aload_n (pc := 107) 1 dX12_joinedOn_107 rfl rfl ?_
    obtain ⟨v24, hv24, h4⟩ := bnd_some h3
    refine rn_getR (pc := 108) (k := 49) okX12 (by decide) tw_1042 rfl dX12_joinedOn_108 hv24 ?_
    refine rn_iconst (pc := 111) (v := 0) dX12_joinedOn_111 (by decide) ?_
    obtain ⟨v25, hv25, h5⟩ := bnd_some h4
    refine rn_iald (pc := 112) dX12_joinedOn_112 hv25 ?_
    refine rn_istore (pc := 113) (lv' := [(5, .int v25), (4, .int (0 : Int32)), (0, rv (some t0)), (3, .int r22.1)]) dX12_joinedOn_113 (by decide) rfl ?_
    obtain ⟨r31, hr31, h6⟩ := bnd_some h5
    refine rn_sub [2, 3, 1, 0] rfl (lX12_joinedOn_115 hr31 ?_)
    refine rn_iload (pc := 141) 0 dX12_joinedOn_141 rfl ?_
    cases h6
    exact rn_iret (pc := 143) rfl dX12_joinedOn_143
theorem eX12_joinedOn {l : Launch} {G : Gt} {d : Nat} {t0 : Nat} {p1 : Int32} {p2 : Int32} {u : Mem} {y : Int32 × Mem} (h : fX12_joinedOn t0 p1 p2 u = some y) : Ex l G iX12_joinedOn (d + 3) [rv (some t0), .int p1, .int p2] u (.returned (some (.int y.1))) y.2 := Ex.of (by decide +kernel) (by decide) (Nat.le_of_ble_eq_true rfl) rfl (tX12_joinedOn h)
theorem tX12_ready {l : Launch} {G : Gt} {d : Nat} {t0 : Nat} {u : Mem} {y : Mem} (h : fX12_ready t0 u = some y) : Rn l G iX12_ready (d + 5) 0 [(0, rv (some t0))] [] u (.returned none) y := by
  unfold fX12_ready at h
  refine rn_aload_n (pc := 0) 0 dX12_ready_0 rfl rfl ?_
  obtain ⟨b1, hb1, h1⟩ := bnd_some h
  obtain ⟨qb1, kb1⟩ := chk_elim hb1
  cases qb1
  obtain ⟨u2, hu2, h2⟩ := bnd_some h1
  refine rn_callV (pc := 1) (n := 0) (As := []) (rest := []) (eX12_prepare (d := d + 0) hu2) (by omega) okX12 kb1 tw_1270 tw_79 tw_1268 tw_1269 tw_45 (by decide +kernel) rfl (Nat.le_of_ble_eq_true rfl) dX12_ready_1 rfl ?_
  refine rn_aload_n (pc := 4) 0 dX12_ready_4 rfl rfl ?_
  obtain ⟨v3, hv3, h3⟩ := bnd_some h2
  refine rn_getI (pc := 5) (k := 2) okX12 (by decide) tw_995 rfl dX12_ready_5 hv3 ?_
  refine rn_iconst (pc := 8) (v := -1) dX12_ready_8 (by decide) ?_
  rcases if_elim h3 with ⟨c4, h4⟩ | ⟨c4, h4⟩
  · refine rn_ieq_t (pc := 9) (tgt := 16) dX12_ready_9 (by decide) c4 ?_
    cases h4
    exact rn_vret (pc := 16) rfl dX12_ready_16
  · refine rn_ieq_f (pc := 9) 16 dX12_ready_9 (by decide) c4 ?_
    refine rn_aload_n (pc := 12) 0 dX12_ready_12 rfl rfl ?_
    obtain ⟨b5, hb5, h5⟩ := bnd_some h4
    obtain ⟨qb5, kb5⟩ := chk_elim hb5
    cases qb5
    obtain ⟨u6, hu6, h6⟩ := bnd_some h5
    refine rn_callV (pc := 13) (n := 0) (As := []) (rest := []) (eX12_findCopies (d := d + 4) hu6) (by omega) okX12 kb5 tw_1333 tw_79 tw_1331 tw_1332 tw_57 (by decide +kernel) rfl (Nat.le_of_ble_eq_true rfl) dX12_ready_13 rfl ?_
    cases h6
    exact rn_vret (pc := 16) rfl dX12_ready_16
theorem eX12_ready {l : Launch} {G : Gt} {d : Nat} {t0 : Nat} {u : Mem} {y : Mem} (h : fX12_ready t0 u = some y) : Ex l G iX12_ready (d + 5) [rv (some t0)] u (.returned none) y := Ex.of (by decide +kernel) (by decide) (Nat.le_of_ble_eq_true rfl) rfl (tX12_ready h)
theorem tX12_joined {l : Launch} {G : Gt} {d : Nat} {t0 : Nat} {p1 : Int32} {p2 : Int32} {u : Mem} {y : Int32 × Mem} (h : fX12_joined t0 p1 p2 u = some y) : Rn l G iX12_joined (d + 6) 0 [(0, rv (some t0)), (1, .int p1), (2, .int p2)] [] u (.returned (some (.int y.1))) y.2 := by
  unfold fX12_joined at h
  refine rn_aload_n (pc := 0) 0 dX12_joined_0 rfl rfl ?_
  refine rn_iload_n (pc := 1) 1 dX12_joined_1 rfl rfl ?_
  obtain ⟨b1, hb1, h1⟩ := bnd_some h
  obtain ⟨qb1, kb1⟩ := chk_elim hb1
  cases qb1
  obtain ⟨v2, hv2, h2⟩ := bnd_some h1
  refine rn_callV (pc := 2) (n := 1) (As := [.int p1]) (rest := []) (eX12_isQuestion (d := d + 4) hv2) (by omega) okX12 kb1 tw_1243 tw_79 tw_1241 tw_1242 tw_43 (by decide +kernel) rfl (Nat.le_of_ble_eq_true rfl) dX12_joined_2 rfl ?_
  rcases if_elim h2 with ⟨c3, h3⟩ | ⟨c3, h3⟩
  · refine rn_zeq_t (pc := 5) (tgt := 15) dX12_joined_5 (by decide) c3 ?_
    refine rn_bipush (pc := 15) (v := -2) dX12_joined_15 (by decide) ?_
    cases h3
    exact rn_iret (pc := 17) rfl dX12_joined_17
  · refine rn_zeq_f (pc := 5) 15 dX12_joined_5 (by decide) c3 ?_
    refine rn_iload_n (pc := 8) 2 dX12_joined_8 rfl rfl ?_
    obtain ⟨v4, hv4, h4⟩ := bnd_some h3
    refine rn_callS (pc := 9) (n := 1) (As := [.int p2]) (rest := []) (eX12_isDay (d := d + 4) hv4) (by omega) tw_1235 tw_79 tw_1233 tw_1234 (by decide +kernel) rfl (Nat.le_of_ble_eq_true rfl) dX12_joined_9 rfl ?_
    rcases if_elim h4 with ⟨c5, h5⟩ | ⟨c5, h5⟩
    · refine rn_zne_f (pc := 12) 18 dX12_joined_12 (by decide) c5 ?_
      refine rn_bipush (pc := 15) (v := -2) dX12_joined_15 (by decide) ?_
      cases h5
      exact rn_iret (pc := 17) rfl dX12_joined_17
    · refine rn_zne_t (pc := 12) (tgt := 18) dX12_joined_12 (by decide) c5 ?_
      refine rn_aload_n (pc := 18) 0 dX12_joined_18 rfl rfl ?_
      obtain ⟨b6, hb6, h6⟩ := bnd_some h5
      obtain ⟨qb6, kb6⟩ := chk_elim hb6
      cases qb6
      obtain ⟨u7, hu7, h7⟩ := bnd_some h6
      refine rn_callV (pc := 19) (n := 0) (As := []) (rest := []) (eX12_ready (d := d + 0) hu7) (by omega) okX12 kb6 tw_1351 tw_79 tw_1349 tw_1350 tw_60 (by decide +kernel) rfl (Nat.le_of_ble_eq_true rfl) dX12_joined_19 rfl ?_
      refine rn_aload_n (pc := 22) 0 dX12_joined_22 rfl rfl ?_
      refine rn_iload_n (pc := 23) 1 dX12_joined_23 rfl rfl ?_
      refine rn_iload_n (pc := 24) 2 dX12_joined_24 rfl rfl ?_
      obtain ⟨b8, hb8, h8⟩ := bnd_some h7
      obtain ⟨qb8, kb8⟩ := chk_elim hb8
      cases qb8
      obtain ⟨v9, u10, hv9, h9⟩ := bnd2_some h8
      refine rn_callV (pc := 25) (n := 2) (As := [.int p1, .int p2]) (rest := []) (eX12_joinedOn (d := d + 2) hv9) (by omega) okX12 kb8 tw_1354 tw_79 tw_1352 tw_1353 tw_61 (by decide +kernel) rfl (Nat.le_of_ble_eq_true rfl) dX12_joined_25 rfl ?_
      cases h9
      exact rn_iret (pc := 28) rfl dX12_joined_28
theorem eX12_joined {l : Launch} {G : Gt} {d : Nat} {t0 : Nat} {p1 : Int32} {p2 : Int32} {u : Mem} {y : Int32 × Mem} (h : fX12_joined t0 p1 p2 u = some y) : Ex l G iX12_joined (d + 6) [rv (some t0), .int p1, .int p2] u (.returned (some (.int y.1))) y.2 := Ex.of (by decide +kernel) (by decide) (Nat.le_of_ble_eq_true rfl) rfl (tX12_joined h)
theorem btX12_together_48 {l : Launch} {G : Gt} {d : Nat} {t0 : Nat} {i1 : Int32} {i2 : Int32} {s3 : Int32} {s4 : Int32} {s5 : Int32} {u : Mem} {y : (Int32 × Int32 × Int32 × Mem) ⊕ (Int32 × Int32 × Mem)} {o : Outcome} {u' : Mem} (h : bX12_together_48 t0 i1 i2 s3 s4 s5 u = some y) (k0 : ∀ s' : Int32 × Int32 × Int32 × Mem, y = .inl s' → Rn l G iX12_together (d + 6) 48 [(0, rv (some t0)), (1, .int i1), (2, .int i2), (3, .int s'.1), (4, .int s'.2.1), (5, .int s'.2.2.1)] [] s'.2.2.2 o u') (k1 : ∀ r : Int32 × Int32 × Mem, y = .inr (r) → Rn l G iX12_together (d + 6) 97 [(2, .int i2), (3, .int r.1), (4, .int r.2.1)] [] r.2.2 o u') : Rn l G iX12_together (d + 6) 48 [(0, rv (some t0)), (1, .int i1), (2, .int i2), (3, .int s3), (4, .int s4), (5, .int s5)] [] u o u' := by
  unfold bX12_together_48 at h
  refine rn_iload (pc := 48) 5 dX12_together_48 rfl ?_
  refine rn_aload_n (pc := 50) 0 dX12_together_50 rfl rfl ?_
  refine rn_iload_n (pc := 51) 1 dX12_together_51 rfl rfl ?_
  obtain ⟨b13, hb13, h1⟩ := bnd_some h
  obtain ⟨qb13, kb13⟩ := chk_elim hb13
  cases qb13
  obtain ⟨v14, hv14, h2⟩ := bnd_some h1
  refine rn_callV (pc := 52) (n := 1) (As := [.int i1]) (rest := [.int s5]) (eX12_lastDay (d := d + 4) hv14) (by omega) okX12 kb13 tw_1282 tw_79 tw_1280 tw_1281 tw_48 (by decide +kernel) rfl (Nat.le_of_ble_eq_true rfl) dX12_together_52 rfl ?_
  rcases if_elim h2 with ⟨c15, h3⟩ | ⟨c15, h3⟩
  · refine rn_igt_t (pc := 55) (tgt := 97) dX12_together_55 (by decide) c15 ?_
    cases h3
    exact rn_sub [2, 3, 4] rfl (k1 _ rfl)
  · refine rn_igt_f (pc := 55) 97 dX12_together_55 (by decide) c15 ?_
    refine rn_aload_n (pc := 58) 0 dX12_together_58 rfl rfl ?_
    refine rn_iload_n (pc := 59) 1 dX12_together_59 rfl rfl ?_
    refine rn_iload (pc := 60) 5 dX12_together_60 rfl ?_
    obtain ⟨b16, hb16, h4⟩ := bnd_some h3
    obtain ⟨qb16, kb16⟩ := chk_elim hb16
    cases qb16
    obtain ⟨v17, u18, hv17, h5⟩ := bnd2_some h4
    refine rn_callV (pc := 62) (n := 2) (As := [.int i1, .int s5]) (rest := []) (eX12_joinedOn (d := d + 2) hv17) (by omega) okX12 kb16 tw_1354 tw_79 tw_1352 tw_1353 tw_61 (by decide +kernel) rfl (Nat.le_of_ble_eq_true rfl) dX12_together_62 rfl ?_
    refine rn_istore (pc := 65) (lv' := [(6, .int v17), (0, rv (some t0)), (1, .int i1), (2, .int i2), (3, .int s3), (4, .int s4), (5, .int s5)]) dX12_together_65 (by decide) rfl ?_
    refine rn_iload (pc := 67) 0 dX12_together_67 rfl ?_
    refine rn_iconst (pc := 69) (v := -1) dX12_together_69 (by decide) ?_
    rcases if_elim h5 with ⟨c19, h6⟩ | ⟨c19, h6⟩
    · refine rn_ine_f (pc := 70) 76 dX12_together_70 (by decide) c19 ?_
      refine rn_goto (pc := 73) (tgt := 91) dX12_together_73 (by decide) ?_
      obtain ⟨x20, ex20, h7⟩ := nm_elim h6
      refine rn_iinc (pc := 91) (v := x20) (lv' := [(5, .int x20), (6, .int v17), (0, rv (some t0)), (1, .int i1), (2, .int i2), (3, .int s3), (4, .int s4)]) 6 dX12_together_91 rfl (by rw [ex20]; rfl) (by decide) rfl ?_
      refine rn_goto (pc := 94) (tgt := 48) dX12_together_94 (by decide) ?_
      cases h7
      exact rn_sub [2, 3, 4, 5, 6, 0] rfl (k0 _ rfl)
    · refine rn_ine_t (pc := 70) (tgt := 76) dX12_together_70 (by decide) c19 ?_
      obtain ⟨x21, ex21, h8⟩ := nm_elim h6
      refine rn_iinc (pc := 76) (v := x21) (lv' := [(3, .int x21), (6, .int v17), (0, rv (some t0)), (1, .int i1), (2, .int i2), (4, .int s4), (5, .int s5)]) 4 dX12_together_76 rfl (by rw [ex21]; rfl) (by decide) rfl ?_
      refine rn_iload (pc := 79) 5 dX12_together_79 rfl ?_
      refine rn_aload_n (pc := 81) 2 dX12_together_81 rfl rfl ?_
      refine rn_iload_n (pc := 82) 3 dX12_together_82 rfl rfl ?_
      refine rn_iload (pc := 83) 1 dX12_together_83 rfl ?_
      obtain ⟨b22, hb22, h9⟩ := bnd_some h8
      obtain ⟨qb22, kb22⟩ := chk_elim hb22
      cases qb22
      obtain ⟨v23, hv23, h10⟩ := bnd_some h9
      refine rn_callV (pc := 85) (n := 2) (As := [.int i1, .int v17]) (rest := [.int s4]) (eX12_cost (d := d + 5) hv23) (by omega) okX12 kb22 tw_1292 tw_79 tw_1290 tw_1291 tw_51 (by decide +kernel) rfl (Nat.le_of_ble_eq_true rfl) dX12_together_85 rfl ?_
      refine rn_iadd (pc := 88) dX12_together_88 ?_
      obtain ⟨x24, ex24, h11⟩ := nm_elim h10
      refine rn_topi ex24 ?_
      refine rn_istore (pc := 89) (lv' := [(4, .int x24), (3, .int x21), (6, .int v17), (0, rv (some t0)), (1, .int i1), (2, .int i2), (5, .int s5)]) dX12_together_89 (by decide) rfl ?_
      obtain ⟨x25, ex25, h12⟩ := nm_elim h11
      refine rn_iinc (pc := 91) (v := x25) (lv' := [(5, .int x25), (4, .int x24), (3, .int x21), (6, .int v17), (0, rv (some t0)), (1, .int i1), (2, .int i2)]) 6 dX12_together_91 rfl (by rw [ex25]; rfl) (by decide) rfl ?_
      refine rn_goto (pc := 94) (tgt := 48) dX12_together_94 (by decide) ?_
      cases h12
      exact rn_sub [4, 5, 6, 2, 1, 0] rfl (k0 _ rfl)
theorem lX12_together_48 {l : Launch} {G : Gt} {d : Nat} {t0 : Nat} {i1 : Int32} {i2 : Int32} {N : Nat} {s0 : Int32 × Int32 × Int32 × Mem} {r : Int32 × Int32 × Mem} {o : Outcome} {u' : Mem} (h : lp (fun s : Int32 × Int32 × Int32 × Mem => bX12_together_48 t0 i1 i2 s.1 s.2.1 s.2.2.1 s.2.2.2) N s0 = some r) (k1 : Rn l G iX12_together (d + 6) 97 [(2, .int i2), (3, .int r.1), (4, .int r.2.1)] [] r.2.2 o u') : Rn l G iX12_together (d + 6) 48 [(0, rv (some t0)), (1, .int i1), (2, .int i2), (3, .int s0.1), (4, .int s0.2.1), (5, .int s0.2.2.1)] [] s0.2.2.2 o u' :=
  lp_run (P := fun s : Int32 × Int32 × Int32 × Mem => Rn l G iX12_together (d + 6) 48 [(0, rv (some t0)), (1, .int i1), (2, .int i2), (3, .int s.1), (4, .int s.2.1), (5, .int s.2.2.1)] [] s.2.2.2 o u') (E := fun r => Rn l G iX12_together (d + 6) 97 [(2, .int i2), (3, .int r.1), (4, .int r.2.1)] [] r.2.2 o u') (fun s y hy k0 kE => btX12_together_48 hy (fun s' e => k0 s' e) (fun r e => kE r e)) N s0 r h k1
theorem tX12_together {l : Launch} {G : Gt} {d : Nat} {t0 : Nat} {p1 : Int32} {p2 : Int32} {u : Mem} {y : Int32 × Mem} (h : fX12_together t0 p1 p2 u = some y) : Rn l G iX12_together (d + 6) 0 [(0, rv (some t0)), (1, .int p1), (2, .int p2)] [] u (.returned (some (.int y.1))) y.2 := by
  unfold fX12_together at h
  refine rn_aload_n (pc := 0) 0 dX12_together_0 rfl rfl ?_
  refine rn_iload_n (pc := 1) 1 dX12_together_1 rfl rfl ?_
  obtain ⟨b1, hb1, h1⟩ := bnd_some h
  obtain ⟨qb1, kb1⟩ := chk_elim hb1
  cases qb1
  obtain ⟨v2, hv2, h2⟩ := bnd_some h1
  refine rn_callV (pc := 2) (n := 1) (As := [.int p1]) (rest := []) (eX12_isQuestion (d := d + 4) hv2) (by omega) okX12 kb1 tw_1243 tw_79 tw_1241 tw_1242 tw_43 (by decide +kernel) rfl (Nat.le_of_ble_eq_true rfl) dX12_together_2 rfl ?_
  rcases if_elim h2 with ⟨c3, h3⟩ | ⟨c3, h3⟩
  · refine rn_zeq_t (pc := 5) (tgt := 18) dX12_together_5 (by decide) c3 ?_
    refine rn_bipush (pc := 18) (v := -2) dX12_together_18 (by decide) ?_
    cases h3
    exact rn_iret (pc := 20) rfl dX12_together_20
  · refine rn_zeq_f (pc := 5) 18 dX12_together_5 (by decide) c3 ?_
    refine rn_iload_n (pc := 8) 2 dX12_together_8 rfl rfl ?_
    refine rn_i2l (pc := 9) dX12_together_9 ?_
    refine rn_lconst (pc := 10) (v := 0) dX12_together_10 (by decide) ?_
    refine rn_lconst (pc := 11) (v := 1) dX12_together_11 (by decide) ?_
    obtain ⟨v4, hv4, h4⟩ := bnd_some h3
    refine rn_callS (pc := 12) (n := 3) (As := [.long (Int32.toInt64 p2), .long (0 : Int64), .long (1 : Int64)]) (rest := []) (eX12_in (d := d + 5) hv4) (by omega) tw_1177 tw_79 tw_1175 tw_1176 (by decide +kernel) rfl (Nat.le_of_ble_eq_true rfl) dX12_together_12 rfl ?_
    rcases if_elim h4 with ⟨c5, h5⟩ | ⟨c5, h5⟩
    · refine rn_zne_f (pc := 15) 21 dX12_together_15 (by decide) c5 ?_
      refine rn_bipush (pc := 18) (v := -2) dX12_together_18 (by decide) ?_
      cases h5
      exact rn_iret (pc := 20) rfl dX12_together_20
    · refine rn_zne_t (pc := 15) (tgt := 21) dX12_together_15 (by decide) c5 ?_
      refine rn_aload_n (pc := 21) 0 dX12_together_21 rfl rfl ?_
      refine rn_iload_n (pc := 22) 1 dX12_together_22 rfl rfl ?_
      obtain ⟨b6, hb6, h6⟩ := bnd_some h5
      obtain ⟨qb6, kb6⟩ := chk_elim hb6
      cases qb6
      obtain ⟨v7, hv7, h7⟩ := bnd_some h6
      refine rn_callV (pc := 23) (n := 1) (As := [.int p1]) (rest := []) (eX12_isKnown (d := d + 5) hv7) (by omega) okX12 kb6 tw_1276 tw_79 tw_1274 tw_1275 tw_46 (by decide +kernel) rfl (Nat.le_of_ble_eq_true rfl) dX12_together_23 rfl ?_
      rcases if_elim h7 with ⟨c8, h8⟩ | ⟨c8, h8⟩
      · refine rn_zne_f (pc := 26) 31 dX12_together_26 (by decide) c8 ?_
        refine rn_iconst (pc := 29) (v := 0) dX12_together_29 (by decide) ?_
        cases h8
        exact rn_iret (pc := 30) rfl dX12_together_30
      · refine rn_zne_t (pc := 26) (tgt := 31) dX12_together_26 (by decide) c8 ?_
        refine rn_aload_n (pc := 31) 0 dX12_together_31 rfl rfl ?_
        obtain ⟨b9, hb9, h9⟩ := bnd_some h8
        obtain ⟨qb9, kb9⟩ := chk_elim hb9
        cases qb9
        obtain ⟨u10, hu10, h10⟩ := bnd_some h9
        refine rn_callV (pc := 32) (n := 0) (As := []) (rest := []) (eX12_ready (d := d + 0) hu10) (by omega) okX12 kb9 tw_1351 tw_79 tw_1349 tw_1350 tw_60 (by decide +kernel) rfl (Nat.le_of_ble_eq_true rfl) dX12_together_32 rfl ?_
        refine rn_iconst (pc := 35) (v := 0) dX12_together_35 (by decide) ?_
        refine rn_istore_n (pc := 36) (lv' := [(3, .int (0 : Int32)), (0, rv (some t0)), (1, .int p1), (2, .int p2)]) dX12_together_36 rfl (by decide) rfl ?_
        refine rn_iconst (pc := 37) (v := 0) dX12_together_37 (by decide) ?_
        refine rn_istore (pc := 38) (lv' := [(4, .int (0 : Int32)), (3, .int (0 : Int32)), (0, rv (some t0)), (1, .int p1), (2, .int p2)]) dX12_together_38 (by decide) rfl ?_
        refine rn_aload_n (pc := 40) 2 dX12_together_40 rfl rfl ?_
        obtain ⟨v11, hv11, h11⟩ := bnd_some h10
        refine rn_getR (pc := 41) (k := 28) okX12 (by decide) tw_1021 rfl dX12_together_41 hv11 ?_
        refine rn_iload_n (pc := 44) 3 dX12_together_44 rfl rfl ?_
        obtain ⟨v12, hv12, h12⟩ := bnd_some h11
        refine rn_iald (pc := 45) dX12_together_45 hv12 ?_
        refine rn_istore (pc := 46) (lv' := [(5, .int v12), (4, .int (0 : Int32)), (3, .int (0 : Int32)), (0, rv (some t0)), (1, .int p1), (2, .int p2)]) dX12_together_46 (by decide) rfl ?_
        obtain ⟨r26, hr26, h13⟩ := bnd_some h12
        refine rn_sub [3, 4, 5, 2, 1, 0] rfl (lX12_together_48 hr26 ?_)
        refine rn_iload_n (pc := 97) 0 dX12_together_97 rfl rfl ?_
        rcases if_elim h13 with ⟨c27, h14⟩ | ⟨c27, h14⟩
        · refine rn_zne_f (pc := 98) 105 dX12_together_98 (by decide) c27 ?_
          refine rn_iload_n (pc := 101) 1 dX12_together_101 rfl rfl ?_
          refine rn_goto (pc := 102) (tgt := 107) dX12_together_102 (by decide) ?_
          cases h14
          exact rn_iret (pc := 107) rfl dX12_together_107
        · refine rn_zne_t (pc := 98) (tgt := 105) dX12_together_98 (by decide) c27 ?_
          refine rn_iload (pc := 105) 2 dX12_together_105 rfl ?_
          cases h14
          exact rn_iret (pc := 107) rfl dX12_together_107
theorem eX12_together {l : Launch} {G : Gt} {d : Nat} {t0 : Nat} {p1 : Int32} {p2 : Int32} {u : Mem} {y : Int32 × Mem} (h : fX12_together t0 p1 p2 u = some y) : Ex l G iX12_together (d + 6) [rv (some t0), .int p1, .int p2] u (.returned (some (.int y.1))) y.2 := Ex.of (by decide +kernel) (by decide) (Nat.le_of_ble_eq_true rfl) rfl (tX12_together h)
theorem btX12_atLeast_2 {l : Launch} {G : Gt} {d : Nat} {t0 : Nat} {i1 : Int32} {i2 : Int32} {s3 : Int32} {u : Mem} {y : (Int32 × Mem) ⊕ (Mem)} {o : Outcome} {u' : Mem} (h : bX12_atLeast_2 t0 i1 i2 s3 u = some y) (k0 : ∀ s' : Int32 × Mem, y = .inl s' → Rn l G iX12_atLeast d 2 [(0, rv (some t0)), (1, .int i1), (2, .int i2), (3, .int s'.1)] [] s'.2 o u') (k1 : ∀ r : Mem, y = .inr (r) → Rn l G iX12_atLeast d 28 [(0, rv (some t0)), (1, .int i1), (2, .int i2)] [] r o u') : Rn l G iX12_atLeast d 2 [(0, rv (some t0)), (1, .int i1), (2, .int i2), (3, .int s3)] [] u o u' := by
  unfold bX12_atLeast_2 at h
  refine rn_iload_n (pc := 2) 3 dX12_atLeast_2 rfl rfl ?_
  refine rn_iload_n (pc := 3) 1 dX12_atLeast_3 rfl rfl ?_
  rcases if_elim h with ⟨c1, h1⟩ | ⟨c1, h1⟩
  · refine rn_igt_t (pc := 4) (tgt := 28) dX12_atLeast_4 (by decide) c1 ?_
    cases h1
    exact rn_sub [0, 1, 2] rfl (k1 _ rfl)
  · refine rn_igt_f (pc := 4) 28 dX12_atLeast_4 (by decide) c1 ?_
    refine rn_aload_n (pc := 7) 0 dX12_atLeast_7 rfl rfl ?_
    obtain ⟨v2, hv2, h2⟩ := bnd_some h1
    refine rn_getR (pc := 8) (k := 50) okX12 (by decide) tw_1043 rfl dX12_atLeast_8 hv2 ?_
    refine rn_iload_n (pc := 11) 3 dX12_atLeast_11 rfl rfl ?_
    refine rn_iload_n (pc := 12) 3 dX12_atLeast_12 rfl rfl ?_
    rcases if_elim h2 with ⟨c3, h3⟩ | ⟨c3, h3⟩
    · refine rn_zne_f (pc := 13) 20 dX12_atLeast_13 (by decide) c3 ?_
      refine rn_lconst (pc := 16) (v := 1) dX12_atLeast_16 (by decide) ?_
      refine rn_goto (pc := 17) (tgt := 21) dX12_atLeast_17 (by decide) ?_
      obtain ⟨u4, hu4, h4⟩ := bnd_some h3
      refine rn_last (pc := 21) dX12_atLeast_21 hu4 ?_
      obtain ⟨x5, ex5, h5⟩ := nm_elim h4
      refine rn_iinc (pc := 22) (v := x5) (lv' := [(3, .int x5), (0, rv (some t0)), (1, .int i1), (2, .int i2)]) 3 dX12_atLeast_22 rfl (by rw [ex5]; rfl) (by decide) rfl ?_
      refine rn_goto (pc := 25) (tgt := 2) dX12_atLeast_25 (by decide) ?_
      cases h5
      exact rn_sub [1, 2, 3, 0] rfl (k0 _ rfl)
    · refine rn_zne_t (pc := 13) (tgt := 20) dX12_atLeast_13 (by decide) c3 ?_
      refine rn_lconst (pc := 20) (v := 0) dX12_atLeast_20 (by decide) ?_
      obtain ⟨u6, hu6, h6⟩ := bnd_some h3
      refine rn_last (pc := 21) dX12_atLeast_21 hu6 ?_
      obtain ⟨x7, ex7, h7⟩ := nm_elim h6
      refine rn_iinc (pc := 22) (v := x7) (lv' := [(3, .int x7), (0, rv (some t0)), (1, .int i1), (2, .int i2)]) 3 dX12_atLeast_22 rfl (by rw [ex7]; rfl) (by decide) rfl ?_
      refine rn_goto (pc := 25) (tgt := 2) dX12_atLeast_25 (by decide) ?_
      cases h7
      exact rn_sub [1, 2, 3, 0] rfl (k0 _ rfl)
theorem lX12_atLeast_2 {l : Launch} {G : Gt} {d : Nat} {t0 : Nat} {i1 : Int32} {i2 : Int32} {N : Nat} {s0 : Int32 × Mem} {r : Mem} {o : Outcome} {u' : Mem} (h : lp (fun s : Int32 × Mem => bX12_atLeast_2 t0 i1 i2 s.1 s.2) N s0 = some r) (k1 : Rn l G iX12_atLeast d 28 [(0, rv (some t0)), (1, .int i1), (2, .int i2)] [] r o u') : Rn l G iX12_atLeast d 2 [(0, rv (some t0)), (1, .int i1), (2, .int i2), (3, .int s0.1)] [] s0.2 o u' :=
  lp_run (P := fun s : Int32 × Mem => Rn l G iX12_atLeast d 2 [(0, rv (some t0)), (1, .int i1), (2, .int i2), (3, .int s.1)] [] s.2 o u') (E := fun r => Rn l G iX12_atLeast d 28 [(0, rv (some t0)), (1, .int i1), (2, .int i2)] [] r o u') (fun s y hy k0 kE => btX12_atLeast_2 hy (fun s' e => k0 s' e) (fun r e => kE r e)) N s0 r h k1
theorem btX12_atLeast_38 {l : Launch} {G : Gt} {d : Nat} {t0 : Nat} {i1 : Int32} {i2 : Int32} {i3 : Int32} {s4 : Int32} {u : Mem} {y : (Int32 × Mem) ⊕ (Mem)} {o : Outcome} {u' : Mem} (h : bX12_atLeast_38 t0 i1 i2 i3 s4 u = some y) (k0 : ∀ s' : Int32 × Mem, y = .inl s' → Rn l G iX12_atLeast d 38 [(0, rv (some t0)), (1, .int i1), (2, .int i2), (3, .int i3), (4, .int s'.1)] [] s'.2 o u') (k1 : ∀ r : Mem, y = .inr (r) → Rn l G iX12_atLeast d 68 [(0, rv (some t0)), (1, .int i1), (2, .int i2), (3, .int i3)] [] r o u') : Rn l G iX12_atLeast d 38 [(0, rv (some t0)), (1, .int i1), (2, .int i2), (3, .int i3), (4, .int s4)] [] u o u' := by
  unfold bX12_atLeast_38 at h
  refine rn_iload (pc := 38) 4 dX12_atLeast_38 rfl ?_
  rcases if_elim h with ⟨c10, h1⟩ | ⟨c10, h1⟩
  · refine rn_zle_f (pc := 40) 68 dX12_atLeast_40 (by decide) c10 ?_
    refine rn_aload_n (pc := 43) 0 dX12_atLeast_43 rfl rfl ?_
    obtain ⟨v11, hv11, h2⟩ := bnd_some h1
    refine rn_getR (pc := 44) (k := 50) okX12 (by decide) tw_1043 rfl dX12_atLeast_44 hv11 ?_
    refine rn_iload (pc := 47) 4 dX12_atLeast_47 rfl ?_
    refine rn_dup2 (pc := 49) dX12_atLeast_49 rfl (rv_cat _) ?_
    obtain ⟨v12, hv12, h3⟩ := bnd_some h2
    refine rn_lald (pc := 50) dX12_atLeast_50 hv12 ?_
    refine rn_aload_n (pc := 51) 0 dX12_atLeast_51 rfl rfl ?_
    obtain ⟨v13, hv13, h4⟩ := bnd_some h3
    refine rn_getR (pc := 52) (k := 50) okX12 (by decide) tw_1043 rfl dX12_atLeast_52 hv13 ?_
    refine rn_iload (pc := 55) 4 dX12_atLeast_55 rfl ?_
    refine rn_iconst (pc := 57) (v := 1) dX12_atLeast_57 (by decide) ?_
    refine rn_isub (pc := 58) dX12_atLeast_58 ?_
    obtain ⟨v14, hv14, h5⟩ := bnd_some h4
    refine rn_lald (pc := 59) dX12_atLeast_59 hv14 ?_
    refine rn_ladd (pc := 60) dX12_atLeast_60 ?_
    obtain ⟨u15, hu15, h6⟩ := bnd_some h5
    refine rn_last (pc := 61) dX12_atLeast_61 hu15 ?_
    obtain ⟨x16, ex16, h7⟩ := nm_elim h6
    refine rn_iinc (pc := 62) (v := x16) (lv' := [(4, .int x16), (0, rv (some t0)), (1, .int i1), (2, .int i2), (3, .int i3)]) 4 dX12_atLeast_62 rfl (by rw [ex16]; rfl) (by decide) rfl ?_
    refine rn_goto (pc := 65) (tgt := 38) dX12_atLeast_65 (by decide) ?_
    cases h7
    exact rn_sub [1, 2, 3, 4, 0] rfl (k0 _ rfl)
  · refine rn_zle_t (pc := 40) (tgt := 68) dX12_atLeast_40 (by decide) c10 ?_
    cases h1
    exact rn_sub [0, 1, 2, 3] rfl (k1 _ rfl)
theorem lX12_atLeast_38 {l : Launch} {G : Gt} {d : Nat} {t0 : Nat} {i1 : Int32} {i2 : Int32} {i3 : Int32} {N : Nat} {s0 : Int32 × Mem} {r : Mem} {o : Outcome} {u' : Mem} (h : lp (fun s : Int32 × Mem => bX12_atLeast_38 t0 i1 i2 i3 s.1 s.2) N s0 = some r) (k1 : Rn l G iX12_atLeast d 68 [(0, rv (some t0)), (1, .int i1), (2, .int i2), (3, .int i3)] [] r o u') : Rn l G iX12_atLeast d 38 [(0, rv (some t0)), (1, .int i1), (2, .int i2), (3, .int i3), (4, .int s0.1)] [] s0.2 o u' :=
  lp_run (P := fun s : Int32 × Mem => Rn l G iX12_atLeast d 38 [(0, rv (some t0)), (1, .int i1), (2, .int i2), (3, .int i3), (4, .int s.1)] [] s.2 o u') (E := fun r => Rn l G iX12_atLeast d 68 [(0, rv (some t0)), (1, .int i1), (2, .int i2), (3, .int i3)] [] r o u') (fun s y hy k0 kE => btX12_atLeast_38 hy (fun s' e => k0 s' e) (fun r e => kE r e)) N s0 r h k1
theorem btX12_atLeast_30 {l : Launch} {G : Gt} {d : Nat} {t0 : Nat} {i1 : Int32} {i2 : Int32} {s3 : Int32} {u : Mem} {y : (Int32 × Mem) ⊕ (Mem)} {o : Outcome} {u' : Mem} (h : bX12_atLeast_30 t0 i1 i2 s3 u = some y) (k0 : ∀ s' : Int32 × Mem, y = .inl s' → Rn l G iX12_atLeast d 30 [(0, rv (some t0)), (1, .int i1), (2, .int i2), (3, .int s'.1)] [] s'.2 o u') (k1 : ∀ r : Mem, y = .inr (r) → Rn l G iX12_atLeast d 74 [(0, rv (some t0)), (1, .int i1), (2, .int i2)] [] r o u') : Rn l G iX12_atLeast d 30 [(0, rv (some t0)), (1, .int i1), (2, .int i2), (3, .int s3)] [] u o u' := by
  unfold bX12_atLeast_30 at h
  refine rn_iload_n (pc := 30) 3 dX12_atLeast_30 rfl rfl ?_
  refine rn_iload_n (pc := 31) 1 dX12_atLeast_31 rfl rfl ?_
  rcases if_elim h with ⟨c9, h1⟩ | ⟨c9, h1⟩
  · refine rn_ige_f (pc := 32) 74 dX12_atLeast_32 (by decide) c9 ?_
    refine rn_iload_n (pc := 35) 1 dX12_atLeast_35 rfl rfl ?_
    refine rn_istore (pc := 36) (lv' := [(4, .int i1), (0, rv (some t0)), (1, .int i1), (2, .int i2), (3, .int s3)]) dX12_atLeast_36 (by decide) rfl ?_
    obtain ⟨r17, hr17, h2⟩ := bnd_some h1
    refine rn_sub [1, 2, 3, 4, 0] rfl (lX12_atLeast_38 hr17 ?_)
    obtain ⟨x18, ex18, h3⟩ := nm_elim h2
    refine rn_iinc (pc := 68) (v := x18) (lv' := [(3, .int x18), (0, rv (some t0)), (1, .int i1), (2, .int i2)]) 3 dX12_atLeast_68 rfl (by rw [ex18]; rfl) (by decide) rfl ?_
    refine rn_goto (pc := 71) (tgt := 30) dX12_atLeast_71 (by decide) ?_
    cases h3
    exact rn_sub [1, 2, 3, 0] rfl (k0 _ rfl)
  · refine rn_ige_t (pc := 32) (tgt := 74) dX12_atLeast_32 (by decide) c9 ?_
    cases h1
    exact rn_sub [0, 1, 2] rfl (k1 _ rfl)
theorem lX12_atLeast_30 {l : Launch} {G : Gt} {d : Nat} {t0 : Nat} {i1 : Int32} {i2 : Int32} {N : Nat} {s0 : Int32 × Mem} {r : Mem} {o : Outcome} {u' : Mem} (h : lp (fun s : Int32 × Mem => bX12_atLeast_30 t0 i1 i2 s.1 s.2) N s0 = some r) (k1 : Rn l G iX12_atLeast d 74 [(0, rv (some t0)), (1, .int i1), (2, .int i2)] [] r o u') : Rn l G iX12_atLeast d 30 [(0, rv (some t0)), (1, .int i1), (2, .int i2), (3, .int s0.1)] [] s0.2 o u' :=
  lp_run (P := fun s : Int32 × Mem => Rn l G iX12_atLeast d 30 [(0, rv (some t0)), (1, .int i1), (2, .int i2), (3, .int s.1)] [] s.2 o u') (E := fun r => Rn l G iX12_atLeast d 74 [(0, rv (some t0)), (1, .int i1), (2, .int i2)] [] r o u') (fun s y hy k0 kE => btX12_atLeast_30 hy (fun s' e => k0 s' e) (fun r e => kE r e)) N s0 r h k1
theorem btX12_atLeast_79 {l : Launch} {G : Gt} {d : Nat} {t0 : Nat} {i1 : Int32} {u : Mem} {s3 : Int64} {s5 : Int32} {y : (Int64 × Int32) ⊕ (Int64)} {o : Outcome} {u' : Mem} (h : bX12_atLeast_79 t0 i1 u s3 s5 = some y) (k0 : ∀ s' : Int64 × Int32, y = .inl s' → Rn l G iX12_atLeast d 79 [(0, rv (some t0)), (1, .int i1), (3, .long s'.1), (5, .int s'.2)] [] u o u') (k1 : ∀ r : Int64, y = .inr (r) → Rn l G iX12_atLeast d 101 [(3, .long r)] [] u o u') : Rn l G iX12_atLeast d 79 [(0, rv (some t0)), (1, .int i1), (3, .long s3), (5, .int s5)] [] u o u' := by
  unfold bX12_atLeast_79 at h
  refine rn_iload (pc := 79) 3 dX12_atLeast_79 rfl ?_
  refine rn_iload_n (pc := 81) 1 dX12_atLeast_81 rfl rfl ?_
  rcases if_elim h with ⟨c20, h1⟩ | ⟨c20, h1⟩
  · refine rn_igt_t (pc := 82) (tgt := 101) dX12_atLeast_82 (by decide) c20 ?_
    cases h1
    exact rn_sub [2] rfl (k1 _ rfl)
  · refine rn_igt_f (pc := 82) 101 dX12_atLeast_82 (by decide) c20 ?_
    refine rn_lload_n (pc := 85) 2 dX12_atLeast_85 rfl rfl ?_
    refine rn_aload_n (pc := 86) 0 dX12_atLeast_86 rfl rfl ?_
    obtain ⟨v21, hv21, h2⟩ := bnd_some h1
    refine rn_getR (pc := 87) (k := 50) okX12 (by decide) tw_1043 rfl dX12_atLeast_87 hv21 ?_
    refine rn_iload (pc := 90) 3 dX12_atLeast_90 rfl ?_
    obtain ⟨v22, hv22, h3⟩ := bnd_some h2
    refine rn_lald (pc := 92) dX12_atLeast_92 hv22 ?_
    refine rn_ladd (pc := 93) dX12_atLeast_93 ?_
    obtain ⟨x23, ex23, h4⟩ := nm_elim h3
    refine rn_topl ex23 ?_
    refine rn_lstore_n (pc := 94) (lv' := [(3, .long x23), (0, rv (some t0)), (1, .int i1), (5, .int s5)]) dX12_atLeast_94 rfl (by decide) rfl ?_
    obtain ⟨x24, ex24, h5⟩ := nm_elim h4
    refine rn_iinc (pc := 95) (v := x24) (lv' := [(5, .int x24), (3, .long x23), (0, rv (some t0)), (1, .int i1)]) 3 dX12_atLeast_95 rfl (by rw [ex24]; rfl) (by decide) rfl ?_
    refine rn_goto (pc := 98) (tgt := 79) dX12_atLeast_98 (by decide) ?_
    cases h5
    exact rn_sub [2, 3, 1, 0] rfl (k0 _ rfl)
theorem lX12_atLeast_79 {l : Launch} {G : Gt} {d : Nat} {t0 : Nat} {i1 : Int32} {u : Mem} {N : Nat} {s0 : Int64 × Int32} {r : Int64} {o : Outcome} {u' : Mem} (h : lp (fun s : Int64 × Int32 => bX12_atLeast_79 t0 i1 u s.1 s.2) N s0 = some r) (k1 : Rn l G iX12_atLeast d 101 [(3, .long r)] [] u o u') : Rn l G iX12_atLeast d 79 [(0, rv (some t0)), (1, .int i1), (3, .long s0.1), (5, .int s0.2)] [] u o u' :=
  lp_run (P := fun s : Int64 × Int32 => Rn l G iX12_atLeast d 79 [(0, rv (some t0)), (1, .int i1), (3, .long s.1), (5, .int s.2)] [] u o u') (E := fun r => Rn l G iX12_atLeast d 101 [(3, .long r)] [] u o u') (fun s y hy k0 kE => btX12_atLeast_79 hy (fun s' e => k0 s' e) (fun r e => kE r e)) N s0 r h k1
theorem tX12_atLeast {l : Launch} {G : Gt} {d : Nat} {t0 : Nat} {p1 : Int32} {p2 : Int32} {u : Mem} {y : Int64 × Mem} (h : fX12_atLeast t0 p1 p2 u = some y) : Rn l G iX12_atLeast d 0 [(0, rv (some t0)), (1, .int p1), (2, .int p2)] [] u (.returned (some (.long y.1))) y.2 := by
  unfold fX12_atLeast at h
  refine rn_iconst (pc := 0) (v := 0) dX12_atLeast_0 (by decide) ?_
  refine rn_istore_n (pc := 1) (lv' := [(3, .int (0 : Int32)), (0, rv (some t0)), (1, .int p1), (2, .int p2)]) dX12_atLeast_1 rfl (by decide) rfl ?_
  obtain ⟨r8, hr8, h1⟩ := bnd_some h
  refine rn_sub [1, 2, 3, 0] rfl (lX12_atLeast_2 hr8 ?_)
  refine rn_iconst (pc := 28) (v := 0) dX12_atLeast_28 (by decide) ?_
  refine rn_istore_n (pc := 29) (lv' := [(3, .int (0 : Int32)), (0, rv (some t0)), (1, .int p1), (2, .int p2)]) dX12_atLeast_29 rfl (by decide) rfl ?_
  obtain ⟨r19, hr19, h2⟩ := bnd_some h1
  refine rn_sub [1, 2, 3, 0] rfl (lX12_atLeast_30 hr19 ?_)
  refine rn_lconst (pc := 74) (v := 0) dX12_atLeast_74 (by decide) ?_
  refine rn_lstore_n (pc := 75) (lv' := [(3, .long (0 : Int64)), (0, rv (some t0)), (1, .int p1), (2, .int p2)]) dX12_atLeast_75 rfl (by decide) rfl ?_
  refine rn_iload_n (pc := 76) 3 dX12_atLeast_76 rfl rfl ?_
  refine rn_istore (pc := 77) (lv' := [(5, .int p2), (3, .long (0 : Int64)), (0, rv (some t0)), (1, .int p1), (2, .int p2)]) dX12_atLeast_77 (by decide) rfl ?_
  obtain ⟨r25, hr25, h3⟩ := bnd_some h2
  refine rn_sub [2, 3, 1, 0] rfl (lX12_atLeast_79 hr25 ?_)
  refine rn_lload_n (pc := 101) 0 dX12_atLeast_101 rfl rfl ?_
  cases h3
  exact rn_lret (pc := 102) rfl dX12_atLeast_102
theorem eX12_atLeast {l : Launch} {G : Gt} {d : Nat} {t0 : Nat} {p1 : Int32} {p2 : Int32} {u : Mem} {y : Int64 × Mem} (h : fX12_atLeast t0 p1 p2 u = some y) : Ex l G iX12_atLeast d [rv (some t0), .int p1, .int p2] u (.returned (some (.long y.1))) y.2 := Ex.of (by decide +kernel) (by decide) (Nat.le_of_ble_eq_true rfl) rfl (tX12_atLeast h)
theorem jtX12_luck_72_112 {l : Launch} {G : Gt} {d : Nat} {t0 : Nat} {i1 : Int32} {i2 : Int32} {i3 : Int32} {i4 : Int32} {i5 : Int32} {p6 : Int32} {p7 : Int32} {p8 : Int32} {p9 : Int32} {w0 : Int32} {u : Mem}  {y : (Int32 × Int32 × Int32 × Mem) ⊕ (Int32 × Int32 × Mem)} {o : Outcome} {u' : Mem} (h : jX12_luck_72_112 t0 i1 i2 i3 i4 i5 p6 p7 p8 p9 w0 u = some y) (k0 : ∀ s' : Int32 × Int32 × Int32 × Mem, y = .inl s' → Rn l G iX12_luck (d + 6) 72 [(0, rv (some t0)), (1, .int i1), (2, .int i2), (3, .int i3), (4, .int i4), (5, .int i5), (6, .int s'.1), (7, .int s'.2.1), (8, .int s'.2.2.1)] [] s'.2.2.2 o u') (k1 : ∀ r : Int32 × Int32 × Mem, y = .inr (r) → Rn l G iX12_luck (d + 6) 149 [(0, rv (some t0)), (1, .int i1), (2, .int i2), (3, .int i3), (4, .int i4), (5, .int i5), (6, .int r.1), (7, .int r.2.1)] [] r.2.2 o u') : Rn l G iX12_luck (d + 6) 112 [(0, rv (some t0)), (1, .int i1), (2, .int i2), (3, .int i3), (4, .int i4), (5, .int i5), (6, .int p6), (7, .int p7), (8, .int p8), (9, .int p9)] [.int w0] u o u' := by
  unfold jX12_luck_72_112 at h
  refine rn_istore (pc := 112) (lv' := [(10, .int w0), (0, rv (some t0)), (1, .int i1), (2, .int i2), (3, .int i3), (4, .int i4), (5, .int i5), (6, .int p6), (7, .int p7), (8, .int p8), (9, .int p9)]) dX12_luck_112 (by decide) rfl ?_
  refine rn_iload (pc := 114) 0 dX12_luck_114 rfl ?_
  refine rn_iconst (pc := 116) (v := -1) dX12_luck_116 (by decide) ?_
  rcases if_elim h with ⟨c21, h1⟩ | ⟨c21, h1⟩
  · refine rn_ine_f (pc := 117) 123 dX12_luck_117 (by decide) c21 ?_
    refine rn_goto (pc := 120) (tgt := 143) dX12_luck_120 (by decide) ?_
    obtain ⟨x22, ex22, h2⟩ := nm_elim h1
    refine rn_iinc (pc := 143) (v := x22) (lv' := [(8, .int x22), (10, .int w0), (0, rv (some t0)), (1, .int i1), (2, .int i2), (3, .int i3), (4, .int i4), (5, .int i5), (6, .int p6), (7, .int p7), (9, .int p9)]) 9 dX12_luck_143 rfl (by rw [ex22]; rfl) (by decide) rfl ?_
    refine rn_goto (pc := 146) (tgt := 72) dX12_luck_146 (by decide) ?_
    cases h2
    exact rn_sub [2, 3, 4, 5, 6, 7, 8, 9, 0] rfl (k0 _ rfl)
  · refine rn_ine_t (pc := 117) (tgt := 123) dX12_luck_117 (by decide) c21 ?_
    refine rn_iload (pc := 123) 7 dX12_luck_123 rfl ?_
    refine rn_iload (pc := 125) 10 dX12_luck_125 rfl ?_
    refine rn_iadd (pc := 127) dX12_luck_127 ?_
    obtain ⟨x23, ex23, h3⟩ := nm_elim h1
    refine rn_topi ex23 ?_
    refine rn_istore (pc := 128) (lv' := [(6, .int x23), (10, .int w0), (0, rv (some t0)), (1, .int i1), (2, .int i2), (3, .int i3), (4, .int i4), (5, .int i5), (7, .int p7), (8, .int p8), (9, .int p9)]) dX12_luck_128 (by decide) rfl ?_
    refine rn_iload (pc := 130) 8 dX12_luck_130 rfl ?_
    refine rn_aload_n (pc := 132) 2 dX12_luck_132 rfl rfl ?_
    refine rn_iload (pc := 133) 7 dX12_luck_133 rfl ?_
    refine rn_iload (pc := 135) 1 dX12_luck_135 rfl ?_
    obtain ⟨b24, hb24, h4⟩ := bnd_some h3
    obtain ⟨qb24, kb24⟩ := chk_elim hb24
    cases qb24
    obtain ⟨v25, hv25, h5⟩ := bnd_some h4
    refine rn_callV (pc := 137) (n := 2) (As := [.int i5, .int w0]) (rest := [.int p7]) (eX12_cost (d := d + 5) hv25) (by omega) okX12 kb24 tw_1292 tw_79 tw_1290 tw_1291 tw_51 (by decide +kernel) rfl (Nat.le_of_ble_eq_true rfl) dX12_luck_137 rfl ?_
    refine rn_iadd (pc := 140) dX12_luck_140 ?_
    obtain ⟨x26, ex26, h6⟩ := nm_elim h5
    refine rn_topi ex26 ?_
    refine rn_istore (pc := 141) (lv' := [(7, .int x26), (6, .int x23), (10, .int w0), (0, rv (some t0)), (1, .int i1), (2, .int i2), (3, .int i3), (4, .int i4), (5, .int i5), (8, .int p8), (9, .int p9)]) dX12_luck_141 (by decide) rfl ?_
    obtain ⟨x27, ex27, h7⟩ := nm_elim h6
    refine rn_iinc (pc := 143) (v := x27) (lv' := [(8, .int x27), (7, .int x26), (6, .int x23), (10, .int w0), (0, rv (some t0)), (1, .int i1), (2, .int i2), (3, .int i3), (4, .int i4), (5, .int i5), (9, .int p9)]) 9 dX12_luck_143 rfl (by rw [ex27]; rfl) (by decide) rfl ?_
    refine rn_goto (pc := 146) (tgt := 72) dX12_luck_146 (by decide) ?_
    cases h7
    exact rn_sub [4, 5, 6, 7, 8, 9, 2, 1, 0] rfl (k0 _ rfl)
theorem btX12_luck_72 {l : Launch} {G : Gt} {d : Nat} {t0 : Nat} {i1 : Int32} {i2 : Int32} {i3 : Int32} {i4 : Int32} {i5 : Int32} {s6 : Int32} {s7 : Int32} {s8 : Int32} {u : Mem} {y : (Int32 × Int32 × Int32 × Mem) ⊕ (Int32 × Int32 × Mem)} {o : Outcome} {u' : Mem} (h : bX12_luck_72 t0 i1 i2 i3 i4 i5 s6 s7 s8 u = some y) (k0 : ∀ s' : Int32 × Int32 × Int32 × Mem, y = .inl s' → Rn l G iX12_luck (d + 6) 72 [(0, rv (some t0)), (1, .int i1), (2, .int i2), (3, .int i3), (4, .int i4), (5, .int i5), (6, .int s'.1), (7, .int s'.2.1), (8, .int s'.2.2.1)] [] s'.2.2.2 o u') (k1 : ∀ r : Int32 × Int32 × Mem, y = .inr (r) → Rn l G iX12_luck (d + 6) 149 [(0, rv (some t0)), (1, .int i1), (2, .int i2), (3, .int i3), (4, .int i4), (5, .int i5), (6, .int r.1), (7, .int r.2.1)] [] r.2.2 o u') : Rn l G iX12_luck (d + 6) 72 [(0, rv (some t0)), (1, .int i1), (2, .int i2), (3, .int i3), (4, .int i4), (5, .int i5), (6, .int s6), (7, .int s7), (8, .int s8)] [] u o u' := by
  unfold bX12_luck_72 at h
  refine rn_iload (pc := 72) 8 dX12_luck_72 rfl ?_
  refine rn_aload_n (pc := 74) 0 dX12_luck_74 rfl rfl ?_
  refine rn_iload (pc := 75) 5 dX12_luck_75 rfl ?_
  obtain ⟨b15, hb15, h1⟩ := bnd_some h
  obtain ⟨qb15, kb15⟩ := chk_elim hb15
  cases qb15
  obtain ⟨v16, hv16, h2⟩ := bnd_some h1
  refine rn_callV (pc := 77) (n := 1) (As := [.int i5]) (rest := [.int s8]) (eX12_lastDay (d := d + 4) hv16) (by omega) okX12 kb15 tw_1282 tw_79 tw_1280 tw_1281 tw_48 (by decide +kernel) rfl (Nat.le_of_ble_eq_true rfl) dX12_luck_77 rfl ?_
  rcases if_elim h2 with ⟨c17, h3⟩ | ⟨c17, h3⟩
  · refine rn_igt_t (pc := 80) (tgt := 149) dX12_luck_80 (by decide) c17 ?_
    cases h3
    exact rn_sub [0, 1, 2, 3, 4, 5, 6, 7] rfl (k1 _ rfl)
  · refine rn_igt_f (pc := 80) 149 dX12_luck_80 (by decide) c17 ?_
    refine rn_aload_n (pc := 83) 0 dX12_luck_83 rfl rfl ?_
    refine rn_iload_n (pc := 84) 1 dX12_luck_84 rfl rfl ?_
    refine rn_iload (pc := 85) 5 dX12_luck_85 rfl ?_
    refine rn_iload (pc := 87) 8 dX12_luck_87 rfl ?_
    obtain ⟨b18, hb18, h4⟩ := bnd_some h3
    obtain ⟨qb18, kb18⟩ := chk_elim hb18
    cases qb18
    obtain ⟨v19, hv19, h5⟩ := bnd_some h4
    refine rn_callV (pc := 89) (n := 3) (As := [.int i1, .int i5, .int s8]) (rest := []) (eX12_rowOn (d := d + 3) hv19) (by omega) okX12 kb18 tw_1286 tw_79 tw_1284 tw_1285 tw_49 (by decide +kernel) rfl (Nat.le_of_ble_eq_true rfl) dX12_luck_89 rfl ?_
    refine rn_istore (pc := 92) (lv' := [(9, .int v19), (0, rv (some t0)), (1, .int i1), (2, .int i2), (3, .int i3), (4, .int i4), (5, .int i5), (6, .int s6), (7, .int s7), (8, .int s8)]) dX12_luck_92 (by decide) rfl ?_
    refine rn_iload (pc := 94) 0 dX12_luck_94 rfl ?_
    refine rn_iconst (pc := 96) (v := -1) dX12_luck_96 (by decide) ?_
    rcases if_elim h5 with ⟨c20, h6⟩ | ⟨c20, h6⟩
    · refine rn_ine_f (pc := 97) 104 dX12_luck_97 (by decide) c20 ?_
      refine rn_iconst (pc := 100) (v := -1) dX12_luck_100 (by decide) ?_
      refine rn_goto (pc := 101) (tgt := 112) dX12_luck_101 (by decide) ?_
      exact rn_sub [1, 2, 3, 4, 5, 6, 7, 8, 9, 0] rfl (jtX12_luck_72_112 h6 k0 k1)
    · refine rn_ine_t (pc := 97) (tgt := 104) dX12_luck_97 (by decide) c20 ?_
      refine rn_aload_n (pc := 104) 1 dX12_luck_104 rfl rfl ?_
      refine rn_iload (pc := 105) 6 dX12_luck_105 rfl ?_
      refine rn_iload (pc := 107) 9 dX12_luck_107 rfl ?_
      obtain ⟨b28, hb28, h7⟩ := bnd_some h6
      obtain ⟨qb28, kb28⟩ := chk_elim hb28
      cases qb28
      obtain ⟨v29, u30, hv29, h8⟩ := bnd2_some h7
      refine rn_callV (pc := 109) (n := 2) (As := [.int i5, .int s8]) (rest := []) (eX12_joinedOn (d := d + 2) hv29) (by omega) okX12 kb28 tw_1354 tw_79 tw_1352 tw_1353 tw_61 (by decide +kernel) rfl (Nat.le_of_ble_eq_true rfl) dX12_luck_109 rfl ?_
      exact rn_sub [1, 2, 3, 4, 5, 6, 7, 8, 9, 0] rfl (jtX12_luck_72_112 h8 k0 k1)
theorem lX12_luck_72 {l : Launch} {G : Gt} {d : Nat} {t0 : Nat} {i1 : Int32} {i2 : Int32} {i3 : Int32} {i4 : Int32} {i5 : Int32} {N : Nat} {s0 : Int32 × Int32 × Int32 × Mem} {r : Int32 × Int32 × Mem} {o : Outcome} {u' : Mem} (h : lp (fun s : Int32 × Int32 × Int32 × Mem => bX12_luck_72 t0 i1 i2 i3 i4 i5 s.1 s.2.1 s.2.2.1 s.2.2.2) N s0 = some r) (k1 : Rn l G iX12_luck (d + 6) 149 [(0, rv (some t0)), (1, .int i1), (2, .int i2), (3, .int i3), (4, .int i4), (5, .int i5), (6, .int r.1), (7, .int r.2.1)] [] r.2.2 o u') : Rn l G iX12_luck (d + 6) 72 [(0, rv (some t0)), (1, .int i1), (2, .int i2), (3, .int i3), (4, .int i4), (5, .int i5), (6, .int s0.1), (7, .int s0.2.1), (8, .int s0.2.2.1)] [] s0.2.2.2 o u' :=
  lp_run (P := fun s : Int32 × Int32 × Int32 × Mem => Rn l G iX12_luck (d + 6) 72 [(0, rv (some t0)), (1, .int i1), (2, .int i2), (3, .int i3), (4, .int i4), (5, .int i5), (6, .int s.1), (7, .int s.2.1), (8, .int s.2.2.1)] [] s.2.2.2 o u') (E := fun r => Rn l G iX12_luck (d + 6) 149 [(0, rv (some t0)), (1, .int i1), (2, .int i2), (3, .int i3), (4, .int i4), (5, .int i5), (6, .int r.1), (7, .int r.2.1)] [] r.2.2 o u') (fun s y hy k0 kE => btX12_luck_72 hy (fun s' e => k0 s' e) (fun r e => kE r e)) N s0 r h k1
theorem jtX12_luck_35_162 {l : Launch} {G : Gt} {d : Nat} {t0 : Nat} {i1 : Int32} {i2 : Int32} {p4 : Int32} {p5 : Int32} {p6 : Int32} {p7 : Int32} {w0 : Int32} {w1 : Int32} {u : Mem}  {y : (Int32 × Int32 × Int32 × Mem) ⊕ (Int32 × Int32 × Mem)} {o : Outcome} {u' : Mem} (h : jX12_luck_35_162 t0 i1 i2 p4 p5 p6 p7 w0 w1 u = some y) (k0 : ∀ s' : Int32 × Int32 × Int32 × Mem, y = .inl s' → Rn l G iX12_luck (d + 6) 35 [(0, rv (some t0)), (1, .int i1), (2, .int i2), (3, .int s'.1), (4, .int s'.2.1), (5, .int s'.2.2.1)] [] s'.2.2.2 o u') (k1 : ∀ r : Int32 × Int32 × Mem, y = .inr (r) → Rn l G iX12_luck (d + 6) 187 [(0, rv (some t0)), (2, .int i2), (3, .int r.1), (4, .int r.2.1)] [] r.2.2 o u') : Rn l G iX12_luck (d + 6) 162 [(0, rv (some t0)), (1, .int i1), (2, .int i2), (4, .int p4), (5, .int p5), (6, .int p6), (7, .int p7)] [.int w0, .int w1] u o u' := by
  unfold jX12_luck_35_162 at h
  refine rn_iadd (pc := 162) dX12_luck_162 ?_
  obtain ⟨x33, ex33, h1⟩ := nm_elim h
  refine rn_topi ex33 ?_
  refine rn_istore_n (pc := 163) (lv' := [(3, .int x33), (0, rv (some t0)), (1, .int i1), (2, .int i2), (4, .int p4), (5, .int p5), (6, .int p6), (7, .int p7)]) dX12_luck_163 rfl (by decide) rfl ?_
  refine rn_iload (pc := 164) 4 dX12_luck_164 rfl ?_
  refine rn_iload (pc := 166) 6 dX12_luck_166 rfl ?_
  refine rn_iload (pc := 168) 7 dX12_luck_168 rfl ?_
  rcases if_elim h1 with ⟨c34, h2⟩ | ⟨c34, h2⟩
  · refine rn_ige_f (pc := 170) 177 dX12_luck_170 (by decide) c34 ?_
    refine rn_iconst (pc := 173) (v := 1) dX12_luck_173 (by decide) ?_
    refine rn_goto (pc := 174) (tgt := 178) dX12_luck_174 (by decide) ?_
    refine rn_iadd (pc := 178) dX12_luck_178 ?_
    obtain ⟨x35, ex35, h3⟩ := nm_elim h2
    refine rn_topi ex35 ?_
    refine rn_istore (pc := 179) (lv' := [(4, .int x35), (3, .int x33), (0, rv (some t0)), (1, .int i1), (2, .int i2), (5, .int p5), (6, .int p6), (7, .int p7)]) dX12_luck_179 (by decide) rfl ?_
    obtain ⟨x36, ex36, h4⟩ := nm_elim h3
    refine rn_iinc (pc := 181) (v := x36) (lv' := [(5, .int x36), (4, .int x35), (3, .int x33), (0, rv (some t0)), (1, .int i1), (2, .int i2), (6, .int p6), (7, .int p7)]) 5 dX12_luck_181 rfl (by rw [ex36]; rfl) (by decide) rfl ?_
    refine rn_goto (pc := 184) (tgt := 35) dX12_luck_184 (by decide) ?_
    cases h4
    exact rn_sub [3, 4, 5, 2, 1, 0] rfl (k0 _ rfl)
  · refine rn_ige_t (pc := 170) (tgt := 177) dX12_luck_170 (by decide) c34 ?_
    refine rn_iconst (pc := 177) (v := 0) dX12_luck_177 (by decide) ?_
    refine rn_iadd (pc := 178) dX12_luck_178 ?_
    obtain ⟨x37, ex37, h5⟩ := nm_elim h2
    refine rn_topi ex37 ?_
    refine rn_istore (pc := 179) (lv' := [(4, .int x37), (3, .int x33), (0, rv (some t0)), (1, .int i1), (2, .int i2), (5, .int p5), (6, .int p6), (7, .int p7)]) dX12_luck_179 (by decide) rfl ?_
    obtain ⟨x38, ex38, h6⟩ := nm_elim h5
    refine rn_iinc (pc := 181) (v := x38) (lv' := [(5, .int x38), (4, .int x37), (3, .int x33), (0, rv (some t0)), (1, .int i1), (2, .int i2), (6, .int p6), (7, .int p7)]) 5 dX12_luck_181 rfl (by rw [ex38]; rfl) (by decide) rfl ?_
    refine rn_goto (pc := 184) (tgt := 35) dX12_luck_184 (by decide) ?_
    cases h6
    exact rn_sub [3, 4, 5, 2, 1, 0] rfl (k0 _ rfl)
theorem btX12_luck_35 {l : Launch} {G : Gt} {d : Nat} {t0 : Nat} {i1 : Int32} {i2 : Int32} {s3 : Int32} {s4 : Int32} {s5 : Int32} {u : Mem} {y : (Int32 × Int32 × Int32 × Mem) ⊕ (Int32 × Int32 × Mem)} {o : Outcome} {u' : Mem} (h : bX12_luck_35 t0 i1 i2 s3 s4 s5 u = some y) (k0 : ∀ s' : Int32 × Int32 × Int32 × Mem, y = .inl s' → Rn l G iX12_luck (d + 6) 35 [(0, rv (some t0)), (1, .int i1), (2, .int i2), (3, .int s'.1), (4, .int s'.2.1), (5, .int s'.2.2.1)] [] s'.2.2.2 o u') (k1 : ∀ r : Int32 × Int32 × Mem, y = .inr (r) → Rn l G iX12_luck (d + 6) 187 [(0, rv (some t0)), (2, .int i2), (3, .int r.1), (4, .int r.2.1)] [] r.2.2 o u') : Rn l G iX12_luck (d + 6) 35 [(0, rv (some t0)), (1, .int i1), (2, .int i2), (3, .int s3), (4, .int s4), (5, .int s5)] [] u o u' := by
  unfold bX12_luck_35 at h
  refine rn_iload (pc := 35) 5 dX12_luck_35 rfl ?_
  refine rn_aload_n (pc := 37) 0 dX12_luck_37 rfl rfl ?_
  obtain ⟨v7, hv7, h1⟩ := bnd_some h
  refine rn_getI (pc := 38) (k := 25) okX12 (by decide) tw_1018 rfl dX12_luck_38 hv7 ?_
  rcases if_elim h1 with ⟨c8, h2⟩ | ⟨c8, h2⟩
  · refine rn_ige_f (pc := 41) 187 dX12_luck_41 (by decide) c8 ?_
    refine rn_aload_n (pc := 44) 0 dX12_luck_44 rfl rfl ?_
    refine rn_iload_n (pc := 45) 1 dX12_luck_45 rfl rfl ?_
    refine rn_iload (pc := 46) 5 dX12_luck_46 rfl ?_
    obtain ⟨b9, hb9, h3⟩ := bnd_some h2
    obtain ⟨qb9, kb9⟩ := chk_elim hb9
    cases qb9
    obtain ⟨v10, hv10, h4⟩ := bnd_some h3
    refine rn_callV (pc := 48) (n := 2) (As := [.int i1, .int s5]) (rest := []) (eX12_counts (d := d + 4) hv10) (by omega) okX12 kb9 tw_1302 tw_79 tw_1300 tw_1301 tw_53 (by decide +kernel) rfl (Nat.le_of_ble_eq_true rfl) dX12_luck_48 rfl ?_
    rcases if_elim h4 with ⟨c11, h5⟩ | ⟨c11, h5⟩
    · refine rn_zne_f (pc := 51) 57 dX12_luck_51 (by decide) c11 ?_
      refine rn_goto (pc := 54) (tgt := 181) dX12_luck_54 (by decide) ?_
      obtain ⟨x12, ex12, h6⟩ := nm_elim h5
      refine rn_iinc (pc := 181) (v := x12) (lv' := [(5, .int x12), (0, rv (some t0)), (1, .int i1), (2, .int i2), (3, .int s3), (4, .int s4)]) 5 dX12_luck_181 rfl (by rw [ex12]; rfl) (by decide) rfl ?_
      refine rn_goto (pc := 184) (tgt := 35) dX12_luck_184 (by decide) ?_
      cases h6
      exact rn_sub [1, 2, 3, 4, 5, 0] rfl (k0 _ rfl)
    · refine rn_zne_t (pc := 51) (tgt := 57) dX12_luck_51 (by decide) c11 ?_
      refine rn_iconst (pc := 57) (v := 0) dX12_luck_57 (by decide) ?_
      refine rn_istore (pc := 58) (lv' := [(6, .int (0 : Int32)), (0, rv (some t0)), (1, .int i1), (2, .int i2), (3, .int s3), (4, .int s4), (5, .int s5)]) dX12_luck_58 (by decide) rfl ?_
      refine rn_iconst (pc := 60) (v := 0) dX12_luck_60 (by decide) ?_
      refine rn_istore (pc := 61) (lv' := [(7, .int (0 : Int32)), (6, .int (0 : Int32)), (0, rv (some t0)), (1, .int i1), (2, .int i2), (3, .int s3), (4, .int s4), (5, .int s5)]) dX12_luck_61 (by decide) rfl ?_
      refine rn_aload_n (pc := 63) 2 dX12_luck_63 rfl rfl ?_
      obtain ⟨v13, hv13, h7⟩ := bnd_some h5
      refine rn_getR (pc := 64) (k := 28) okX12 (by decide) tw_1021 rfl dX12_luck_64 hv13 ?_
      refine rn_iload (pc := 67) 7 dX12_luck_67 rfl ?_
      obtain ⟨v14, hv14, h8⟩ := bnd_some h7
      refine rn_iald (pc := 69) dX12_luck_69 hv14 ?_
      refine rn_istore (pc := 70) (lv' := [(8, .int v14), (7, .int (0 : Int32)), (6, .int (0 : Int32)), (0, rv (some t0)), (1, .int i1), (2, .int i2), (3, .int s3), (4, .int s4), (5, .int s5)]) dX12_luck_70 (by decide) rfl ?_
      obtain ⟨r31, hr31, h9⟩ := bnd_some h8
      refine rn_sub [3, 4, 5, 6, 7, 8, 2, 1, 0] rfl (lX12_luck_72 hr31 ?_)
      refine rn_iload_n (pc := 149) 3 dX12_luck_149 rfl rfl ?_
      refine rn_iload (pc := 150) 6 dX12_luck_150 rfl ?_
      refine rn_iload (pc := 152) 7 dX12_luck_152 rfl ?_
      rcases if_elim h9 with ⟨c32, h10⟩ | ⟨c32, h10⟩
      · refine rn_ieq_t (pc := 154) (tgt := 161) dX12_luck_154 (by decide) c32 ?_
        refine rn_iconst (pc := 161) (v := 0) dX12_luck_161 (by decide) ?_
        exact rn_sub [0, 1, 2, 4, 5, 6, 7] rfl (jtX12_luck_35_162 h10 k0 k1)
      · refine rn_ieq_f (pc := 154) 161 dX12_luck_154 (by decide) c32 ?_
        refine rn_iconst (pc := 157) (v := 1) dX12_luck_157 (by decide) ?_
        refine rn_goto (pc := 158) (tgt := 162) dX12_luck_158 (by decide) ?_
        exact rn_sub [0, 1, 2, 4, 5, 6, 7] rfl (jtX12_luck_35_162 h10 k0 k1)
  · refine rn_ige_t (pc := 41) (tgt := 187) dX12_luck_41 (by decide) c8 ?_
    cases h2
    exact rn_sub [0, 2, 3, 4] rfl (k1 _ rfl)
theorem lX12_luck_35 {l : Launch} {G : Gt} {d : Nat} {t0 : Nat} {i1 : Int32} {i2 : Int32} {N : Nat} {s0 : Int32 × Int32 × Int32 × Mem} {r : Int32 × Int32 × Mem} {o : Outcome} {u' : Mem} (h : lp (fun s : Int32 × Int32 × Int32 × Mem => bX12_luck_35 t0 i1 i2 s.1 s.2.1 s.2.2.1 s.2.2.2) N s0 = some r) (k1 : Rn l G iX12_luck (d + 6) 187 [(0, rv (some t0)), (2, .int i2), (3, .int r.1), (4, .int r.2.1)] [] r.2.2 o u') : Rn l G iX12_luck (d + 6) 35 [(0, rv (some t0)), (1, .int i1), (2, .int i2), (3, .int s0.1), (4, .int s0.2.1), (5, .int s0.2.2.1)] [] s0.2.2.2 o u' :=
  lp_run (P := fun s : Int32 × Int32 × Int32 × Mem => Rn l G iX12_luck (d + 6) 35 [(0, rv (some t0)), (1, .int i1), (2, .int i2), (3, .int s.1), (4, .int s.2.1), (5, .int s.2.2.1)] [] s.2.2.2 o u') (E := fun r => Rn l G iX12_luck (d + 6) 187 [(0, rv (some t0)), (2, .int i2), (3, .int r.1), (4, .int r.2.1)] [] r.2.2 o u') (fun s y hy k0 kE => btX12_luck_35 hy (fun s' e => k0 s' e) (fun r e => kE r e)) N s0 r h k1
theorem tX12_luck {l : Launch} {G : Gt} {d : Nat} {t0 : Nat} {p1 : Int32} {p2 : Int32} {u : Mem} {y : Int64 × Mem} (h : fX12_luck t0 p1 p2 u = some y) : Rn l G iX12_luck (d + 6) 0 [(0, rv (some t0)), (1, .int p1), (2, .int p2)] [] u (.returned (some (.long y.1))) y.2 := by
  unfold fX12_luck at h
  refine rn_iload_n (pc := 0) 1 dX12_luck_0 rfl rfl ?_
  obtain ⟨v1, hv1, h1⟩ := bnd_some h
  refine rn_callS (pc := 1) (n := 1) (As := [.int p1]) (rest := []) (eX12_isGuesser (d := d + 4) hv1) (by omega) tw_1251 tw_79 tw_1249 tw_1250 (by decide +kernel) rfl (Nat.le_of_ble_eq_true rfl) dX12_luck_1 rfl ?_
  rcases if_elim h1 with ⟨c2, h2⟩ | ⟨c2, h2⟩
  · refine rn_zeq_t (pc := 4) (tgt := 19) dX12_luck_4 (by decide) c2 ?_
    refine rn_ldc2 (pc := 19) tw_1367 dX12_luck_19 ?_
    cases h2
    exact rn_lret (pc := 22) rfl dX12_luck_22
  · refine rn_zeq_f (pc := 4) 19 dX12_luck_4 (by decide) c2 ?_
    refine rn_iload_n (pc := 7) 2 dX12_luck_7 rfl rfl ?_
    refine rn_i2l (pc := 8) dX12_luck_8 ?_
    refine rn_lconst (pc := 9) (v := 0) dX12_luck_9 (by decide) ?_
    refine rn_ldc2 (pc := 10) tw_1366 dX12_luck_10 ?_
    obtain ⟨v3, hv3, h3⟩ := bnd_some h2
    refine rn_callS (pc := 13) (n := 3) (As := [.long (Int32.toInt64 p2), .long (0 : Int64), .long (2 : Int64)]) (rest := []) (eX12_in (d := d + 5) hv3) (by omega) tw_1177 tw_79 tw_1175 tw_1176 (by decide +kernel) rfl (Nat.le_of_ble_eq_true rfl) dX12_luck_13 rfl ?_
    rcases if_elim h3 with ⟨c4, h4⟩ | ⟨c4, h4⟩
    · refine rn_zne_f (pc := 16) 23 dX12_luck_16 (by decide) c4 ?_
      refine rn_ldc2 (pc := 19) tw_1367 dX12_luck_19 ?_
      cases h4
      exact rn_lret (pc := 22) rfl dX12_luck_22
    · refine rn_zne_t (pc := 16) (tgt := 23) dX12_luck_16 (by decide) c4 ?_
      refine rn_aload_n (pc := 23) 0 dX12_luck_23 rfl rfl ?_
      obtain ⟨b5, hb5, h5⟩ := bnd_some h4
      obtain ⟨qb5, kb5⟩ := chk_elim hb5
      cases qb5
      obtain ⟨u6, hu6, h6⟩ := bnd_some h5
      refine rn_callV (pc := 24) (n := 0) (As := []) (rest := []) (eX12_ready (d := d + 0) hu6) (by omega) okX12 kb5 tw_1351 tw_79 tw_1349 tw_1350 tw_60 (by decide +kernel) rfl (Nat.le_of_ble_eq_true rfl) dX12_luck_24 rfl ?_
      refine rn_iconst (pc := 27) (v := 0) dX12_luck_27 (by decide) ?_
      refine rn_istore_n (pc := 28) (lv' := [(3, .int (0 : Int32)), (0, rv (some t0)), (1, .int p1), (2, .int p2)]) dX12_luck_28 rfl (by decide) rfl ?_
      refine rn_iconst (pc := 29) (v := 0) dX12_luck_29 (by decide) ?_
      refine rn_istore (pc := 30) (lv' := [(4, .int (0 : Int32)), (3, .int (0 : Int32)), (0, rv (some t0)), (1, .int p1), (2, .int p2)]) dX12_luck_30 (by decide) rfl ?_
      refine rn_iconst (pc := 32) (v := 0) dX12_luck_32 (by decide) ?_
      refine rn_istore (pc := 33) (lv' := [(5, .int (0 : Int32)), (4, .int (0 : Int32)), (3, .int (0 : Int32)), (0, rv (some t0)), (1, .int p1), (2, .int p2)]) dX12_luck_33 (by decide) rfl ?_
      obtain ⟨r39, hr39, h7⟩ := bnd_some h6
      refine rn_sub [3, 4, 5, 2, 1, 0] rfl (lX12_luck_35 hr39 ?_)
      refine rn_iload_n (pc := 187) 1 dX12_luck_187 rfl rfl ?_
      rcases if_elim h7 with ⟨c40, h8⟩ | ⟨c40, h8⟩
      · refine rn_zne_f (pc := 188) 196 dX12_luck_188 (by decide) c40 ?_
        refine rn_iload_n (pc := 191) 2 dX12_luck_191 rfl rfl ?_
        refine rn_i2l (pc := 192) dX12_luck_192 ?_
        refine rn_goto (pc := 193) (tgt := 214) dX12_luck_193 (by decide) ?_
        cases h8
        exact rn_lret (pc := 214) rfl dX12_luck_214
      · refine rn_zne_t (pc := 188) (tgt := 196) dX12_luck_188 (by decide) c40 ?_
        refine rn_iload_n (pc := 196) 1 dX12_luck_196 rfl rfl ?_
        refine rn_iconst (pc := 197) (v := 1) dX12_luck_197 (by decide) ?_
        rcases if_elim h8 with ⟨c41, h9⟩ | ⟨c41, h9⟩
        · refine rn_ine_f (pc := 198) 207 dX12_luck_198 (by decide) c41 ?_
          refine rn_iload (pc := 201) 3 dX12_luck_201 rfl ?_
          refine rn_i2l (pc := 203) dX12_luck_203 ?_
          refine rn_goto (pc := 204) (tgt := 214) dX12_luck_204 (by decide) ?_
          cases h9
          exact rn_lret (pc := 214) rfl dX12_luck_214
        · refine rn_ine_t (pc := 198) (tgt := 207) dX12_luck_198 (by decide) c41 ?_
          refine rn_aload_n (pc := 207) 0 dX12_luck_207 rfl rfl ?_
          refine rn_iload_n (pc := 208) 2 dX12_luck_208 rfl rfl ?_
          refine rn_iload (pc := 209) 3 dX12_luck_209 rfl ?_
          obtain ⟨b42, hb42, h10⟩ := bnd_some h9
          obtain ⟨qb42, kb42⟩ := chk_elim hb42
          cases qb42
          obtain ⟨v43, u44, hv43, h11⟩ := bnd2_some h10
          refine rn_callV (pc := 211) (n := 2) (As := [.int r39.1, .int r39.2.1]) (rest := []) (eX12_atLeast (d := d + 5) hv43) (by omega) okX12 kb42 tw_1370 tw_79 tw_1368 tw_1369 tw_63 (by decide +kernel) rfl (Nat.le_of_ble_eq_true rfl) dX12_luck_211 rfl ?_
          cases h11
          exact rn_lret (pc := 214) rfl dX12_luck_214
theorem eX12_luck {l : Launch} {G : Gt} {d : Nat} {t0 : Nat} {p1 : Int32} {p2 : Int32} {u : Mem} {y : Int64 × Mem} (h : fX12_luck t0 p1 p2 u = some y) : Ex l G iX12_luck (d + 6) [rv (some t0), .int p1, .int p2] u (.returned (some (.long y.1))) y.2 := Ex.of (by decide +kernel) (by decide) (Nat.le_of_ble_eq_true rfl) rfl (tX12_luck h)
theorem tX12_tie {l : Launch} {G : Gt} {d : Nat} {t0 : Nat} {p1 : Int32} {p2 : Int32} {p3 : Int32} {u : Mem} {y : Int32 × Mem} (h : fX12_tie t0 p1 p2 p3 u = some y) : Rn l G iX12_tie (d + 2) 0 [(0, rv (some t0)), (1, .int p1), (2, .int p2), (3, .int p3)] [] u (.returned (some (.int y.1))) y.2 := by
  unfold fX12_tie at h
  refine rn_aload_n (pc := 0) 0 dX12_tie_0 rfl rfl ?_
  refine rn_iload_n (pc := 1) 1 dX12_tie_1 rfl rfl ?_
  obtain ⟨b1, hb1, h1⟩ := bnd_some h
  obtain ⟨qb1, kb1⟩ := chk_elim hb1
  cases qb1
  obtain ⟨v2, hv2, h2⟩ := bnd_some h1
  refine rn_callV (pc := 2) (n := 1) (As := [.int p1]) (rest := []) (eX12_isQuestion (d := d + 0) hv2) (by omega) okX12 kb1 tw_1243 tw_79 tw_1241 tw_1242 tw_43 (by decide +kernel) rfl (Nat.le_of_ble_eq_true rfl) dX12_tie_2 rfl ?_
  rcases if_elim h2 with ⟨c3, h3⟩ | ⟨c3, h3⟩
  · refine rn_zeq_t (pc := 5) (tgt := 33) dX12_tie_5 (by decide) c3 ?_
    refine rn_bipush (pc := 33) (v := -2) dX12_tie_33 (by decide) ?_
    cases h3
    exact rn_iret (pc := 35) rfl dX12_tie_35
  · refine rn_zeq_f (pc := 5) 33 dX12_tie_5 (by decide) c3 ?_
    refine rn_aload_n (pc := 8) 0 dX12_tie_8 rfl rfl ?_
    refine rn_iload_n (pc := 9) 2 dX12_tie_9 rfl rfl ?_
    obtain ⟨b4, hb4, h4⟩ := bnd_some h3
    obtain ⟨qb4, kb4⟩ := chk_elim hb4
    cases qb4
    obtain ⟨v5, hv5, h5⟩ := bnd_some h4
    refine rn_callV (pc := 10) (n := 1) (As := [.int p2]) (rest := []) (eX12_isQuestion (d := d + 0) hv5) (by omega) okX12 kb4 tw_1243 tw_79 tw_1241 tw_1242 tw_43 (by decide +kernel) rfl (Nat.le_of_ble_eq_true rfl) dX12_tie_10 rfl ?_
    rcases if_elim h5 with ⟨c6, h6⟩ | ⟨c6, h6⟩
    · refine rn_zeq_t (pc := 13) (tgt := 33) dX12_tie_13 (by decide) c6 ?_
      refine rn_bipush (pc := 33) (v := -2) dX12_tie_33 (by decide) ?_
      cases h6
      exact rn_iret (pc := 35) rfl dX12_tie_35
    · refine rn_zeq_f (pc := 13) 33 dX12_tie_13 (by decide) c6 ?_
      refine rn_iload_n (pc := 16) 1 dX12_tie_16 rfl rfl ?_
      refine rn_iload_n (pc := 17) 2 dX12_tie_17 rfl rfl ?_
      rcases if_elim h6 with ⟨c7, h7⟩ | ⟨c7, h7⟩
      · refine rn_ieq_t (pc := 18) (tgt := 33) dX12_tie_18 (by decide) c7 ?_
        refine rn_bipush (pc := 33) (v := -2) dX12_tie_33 (by decide) ?_
        cases h7
        exact rn_iret (pc := 35) rfl dX12_tie_35
      · refine rn_ieq_f (pc := 18) 33 dX12_tie_18 (by decide) c7 ?_
        refine rn_iload_n (pc := 21) 3 dX12_tie_21 rfl rfl ?_
        refine rn_i2l (pc := 22) dX12_tie_22 ?_
        refine rn_lconst (pc := 23) (v := 0) dX12_tie_23 (by decide) ?_
        refine rn_ldc2 (pc := 24) tw_1366 dX12_tie_24 ?_
        obtain ⟨v8, hv8, h8⟩ := bnd_some h7
        refine rn_callS (pc := 27) (n := 3) (As := [.long (Int32.toInt64 p3), .long (0 : Int64), .long (2 : Int64)]) (rest := []) (eX12_in (d := d + 1) hv8) (by omega) tw_1177 tw_79 tw_1175 tw_1176 (by decide +kernel) rfl (Nat.le_of_ble_eq_true rfl) dX12_tie_27 rfl ?_
        rcases if_elim h8 with ⟨c9, h9⟩ | ⟨c9, h9⟩
        · refine rn_zne_f (pc := 30) 36 dX12_tie_30 (by decide) c9 ?_
          refine rn_bipush (pc := 33) (v := -2) dX12_tie_33 (by decide) ?_
          cases h9
          exact rn_iret (pc := 35) rfl dX12_tie_35
        · refine rn_zne_t (pc := 30) (tgt := 36) dX12_tie_30 (by decide) c9 ?_
          refine rn_aload_n (pc := 36) 0 dX12_tie_36 rfl rfl ?_
          obtain ⟨v10, hv10, h10⟩ := bnd_some h9
          refine rn_getI (pc := 37) (k := 27) okX12 (by decide) tw_1020 rfl dX12_tie_37 hv10 ?_
          refine rn_bipush (pc := 40) (v := 30) dX12_tie_40 (by decide) ?_
          rcases if_elim h10 with ⟨c11, h11⟩ | ⟨c11, h11⟩
          · refine rn_ine_f (pc := 42) 48 dX12_tie_42 (by decide) c11 ?_
            refine rn_bipush (pc := 45) (v := -3) dX12_tie_45 (by decide) ?_
            cases h11
            exact rn_iret (pc := 47) rfl dX12_tie_47
          · refine rn_ine_t (pc := 42) (tgt := 48) dX12_tie_42 (by decide) c11 ?_
            refine rn_aload_n (pc := 48) 0 dX12_tie_48 rfl rfl ?_
            obtain ⟨v12, hv12, h12⟩ := bnd_some h11
            refine rn_getR (pc := 49) (k := 36) okX12 (by decide) tw_1029 rfl dX12_tie_49 hv12 ?_
            refine rn_aload_n (pc := 52) 0 dX12_tie_52 rfl rfl ?_
            obtain ⟨v13, hv13, h13⟩ := bnd_some h12
            refine rn_getI (pc := 53) (k := 27) okX12 (by decide) tw_1020 rfl dX12_tie_53 hv13 ?_
            refine rn_iload_n (pc := 56) 1 dX12_tie_56 rfl rfl ?_
            obtain ⟨u14, hu14, h14⟩ := bnd_some h13
            refine rn_iast (pc := 57) dX12_tie_57 hu14 ?_
            refine rn_aload_n (pc := 58) 0 dX12_tie_58 rfl rfl ?_
            obtain ⟨v15, hv15, h15⟩ := bnd_some h14
            refine rn_getR (pc := 59) (k := 37) okX12 (by decide) tw_1030 rfl dX12_tie_59 hv15 ?_
            refine rn_aload_n (pc := 62) 0 dX12_tie_62 rfl rfl ?_
            obtain ⟨v16, hv16, h16⟩ := bnd_some h15
            refine rn_getI (pc := 63) (k := 27) okX12 (by decide) tw_1020 rfl dX12_tie_63 hv16 ?_
            refine rn_iload_n (pc := 66) 2 dX12_tie_66 rfl rfl ?_
            obtain ⟨u17, hu17, h17⟩ := bnd_some h16
            refine rn_iast (pc := 67) dX12_tie_67 hu17 ?_
            refine rn_aload_n (pc := 68) 0 dX12_tie_68 rfl rfl ?_
            obtain ⟨v18, hv18, h18⟩ := bnd_some h17
            refine rn_getR (pc := 69) (k := 38) okX12 (by decide) tw_1031 rfl dX12_tie_69 hv18 ?_
            refine rn_aload_n (pc := 72) 0 dX12_tie_72 rfl rfl ?_
            obtain ⟨v19, hv19, h19⟩ := bnd_some h18
            refine rn_getI (pc := 73) (k := 27) okX12 (by decide) tw_1020 rfl dX12_tie_73 hv19 ?_
            refine rn_iload_n (pc := 76) 3 dX12_tie_76 rfl rfl ?_
            obtain ⟨u20, hu20, h20⟩ := bnd_some h19
            refine rn_iast (pc := 77) dX12_tie_77 hu20 ?_
            refine rn_aload_n (pc := 78) 0 dX12_tie_78 rfl rfl ?_
            refine rn_dup (pc := 79) dX12_tie_79 (rv_cat _) ?_
            obtain ⟨v21, hv21, h21⟩ := bnd_some h20
            refine rn_getI (pc := 80) (k := 27) okX12 (by decide) tw_1020 rfl dX12_tie_80 hv21 ?_
            refine rn_iconst (pc := 83) (v := 1) dX12_tie_83 (by decide) ?_
            refine rn_iadd (pc := 84) dX12_tie_84 ?_
            obtain ⟨u22, hu22, h22⟩ := bnd_some h21
            refine rn_putI (pc := 85) (k := 27) okX12 (by decide) tw_1020 (Or.inl rfl) (Or.inl rfl) dX12_tie_85 hu22 ?_
            refine rn_aload_n (pc := 88) 0 dX12_tie_88 rfl rfl ?_
            obtain ⟨v23, hv23, h23⟩ := bnd_some h22
            refine rn_getI (pc := 89) (k := 27) okX12 (by decide) tw_1020 rfl dX12_tie_89 hv23 ?_
            refine rn_iconst (pc := 92) (v := 1) dX12_tie_92 (by decide) ?_
            refine rn_isub (pc := 93) dX12_tie_93 ?_
            cases h23
            exact rn_iret (pc := 94) rfl dX12_tie_94
theorem eX12_tie {l : Launch} {G : Gt} {d : Nat} {t0 : Nat} {p1 : Int32} {p2 : Int32} {p3 : Int32} {u : Mem} {y : Int32 × Mem} (h : fX12_tie t0 p1 p2 p3 u = some y) : Ex l G iX12_tie (d + 2) [rv (some t0), .int p1, .int p2, .int p3] u (.returned (some (.int y.1))) y.2 := Ex.of (by decide +kernel) (by decide) (Nat.le_of_ble_eq_true rfl) rfl (tX12_tie h)
theorem tX12_isBroken {l : Launch} {G : Gt} {d : Nat} {t0 : Nat} {p1 : Int32} {p2 : Int32} {p3 : Int32} {u : Mem} {y : Int32} (h : fX12_isBroken t0 p1 p2 p3 u = some y) : Rn l G iX12_isBroken d 0 [(0, rv (some t0)), (1, .int p1), (2, .int p2), (3, .int p3)] [] u (.returned (some (.int y))) u := by
  unfold fX12_isBroken at h
  refine rn_aload_n (pc := 0) 0 dX12_isBroken_0 rfl rfl ?_
  obtain ⟨v1, hv1, h1⟩ := bnd_some h
  refine rn_getR (pc := 1) (k := 38) okX12 (by decide) tw_1031 rfl dX12_isBroken_1 hv1 ?_
  refine rn_iload_n (pc := 4) 1 dX12_isBroken_4 rfl rfl ?_
  obtain ⟨v2, hv2, h2⟩ := bnd_some h1
  refine rn_iald (pc := 5) dX12_isBroken_5 hv2 ?_
  rcases if_elim h2 with ⟨c3, h3⟩ | ⟨c3, h3⟩
  · refine rn_zne_f (pc := 6) 20 dX12_isBroken_6 (by decide) c3 ?_
    refine rn_iload_n (pc := 9) 2 dX12_isBroken_9 rfl rfl ?_
    refine rn_iload_n (pc := 10) 3 dX12_isBroken_10 rfl rfl ?_
    rcases if_elim h3 with ⟨c4, h4⟩ | ⟨c4, h4⟩
    · refine rn_ile_f (pc := 11) 18 dX12_isBroken_11 (by decide) c4 ?_
      refine rn_iconst (pc := 14) (v := 1) dX12_isBroken_14 (by decide) ?_
      refine rn_goto (pc := 15) (tgt := 19) dX12_isBroken_15 (by decide) ?_
      cases h4
      exact rn_zret (pc := 19) (by decide) rfl dX12_isBroken_19
    · refine rn_ile_t (pc := 11) (tgt := 18) dX12_isBroken_11 (by decide) c4 ?_
      refine rn_iconst (pc := 18) (v := 0) dX12_isBroken_18 (by decide) ?_
      cases h4
      exact rn_zret (pc := 19) (by decide) rfl dX12_isBroken_19
  · refine rn_zne_t (pc := 6) (tgt := 20) dX12_isBroken_6 (by decide) c3 ?_
    refine rn_aload_n (pc := 20) 0 dX12_isBroken_20 rfl rfl ?_
    obtain ⟨v5, hv5, h5⟩ := bnd_some h3
    refine rn_getR (pc := 21) (k := 38) okX12 (by decide) tw_1031 rfl dX12_isBroken_21 hv5 ?_
    refine rn_iload_n (pc := 24) 1 dX12_isBroken_24 rfl rfl ?_
    obtain ⟨v6, hv6, h6⟩ := bnd_some h5
    refine rn_iald (pc := 25) dX12_isBroken_25 hv6 ?_
    refine rn_iconst (pc := 26) (v := 1) dX12_isBroken_26 (by decide) ?_
    rcases if_elim h6 with ⟨c7, h7⟩ | ⟨c7, h7⟩
    · refine rn_ine_f (pc := 27) 46 dX12_isBroken_27 (by decide) c7 ?_
      refine rn_iload_n (pc := 30) 2 dX12_isBroken_30 rfl rfl ?_
      refine rn_iload_n (pc := 31) 3 dX12_isBroken_31 rfl rfl ?_
      refine rn_iadd (pc := 32) dX12_isBroken_32 ?_
      refine rn_bipush (pc := 33) (v := 10) dX12_isBroken_33 (by decide) ?_
      rcases if_elim h7 with ⟨c8, h8⟩ | ⟨c8, h8⟩
      · refine rn_ile_f (pc := 35) 42 dX12_isBroken_35 (by decide) c8 ?_
        refine rn_iconst (pc := 38) (v := 1) dX12_isBroken_38 (by decide) ?_
        refine rn_goto (pc := 39) (tgt := 59) dX12_isBroken_39 (by decide) ?_
        cases h8
        exact rn_zret (pc := 59) (by decide) rfl dX12_isBroken_59
      · refine rn_ile_t (pc := 35) (tgt := 42) dX12_isBroken_35 (by decide) c8 ?_
        refine rn_iconst (pc := 42) (v := 0) dX12_isBroken_42 (by decide) ?_
        refine rn_goto (pc := 43) (tgt := 59) dX12_isBroken_43 (by decide) ?_
        cases h8
        exact rn_zret (pc := 59) (by decide) rfl dX12_isBroken_59
    · refine rn_ine_t (pc := 27) (tgt := 46) dX12_isBroken_27 (by decide) c7 ?_
      refine rn_iload_n (pc := 46) 2 dX12_isBroken_46 rfl rfl ?_
      refine rn_iload_n (pc := 47) 3 dX12_isBroken_47 rfl rfl ?_
      refine rn_iadd (pc := 48) dX12_isBroken_48 ?_
      refine rn_bipush (pc := 49) (v := 10) dX12_isBroken_49 (by decide) ?_
      rcases if_elim h7 with ⟨c9, h9⟩ | ⟨c9, h9⟩
      · refine rn_ige_f (pc := 51) 58 dX12_isBroken_51 (by decide) c9 ?_
        refine rn_iconst (pc := 54) (v := 1) dX12_isBroken_54 (by decide) ?_
        refine rn_goto (pc := 55) (tgt := 59) dX12_isBroken_55 (by decide) ?_
        cases h9
        exact rn_zret (pc := 59) (by decide) rfl dX12_isBroken_59
      · refine rn_ige_t (pc := 51) (tgt := 58) dX12_isBroken_51 (by decide) c9 ?_
        refine rn_iconst (pc := 58) (v := 0) dX12_isBroken_58 (by decide) ?_
        cases h9
        exact rn_zret (pc := 59) (by decide) rfl dX12_isBroken_59
theorem eX12_isBroken {l : Launch} {G : Gt} {d : Nat} {t0 : Nat} {p1 : Int32} {p2 : Int32} {p3 : Int32} {u : Mem} {y : Int32} (h : fX12_isBroken t0 p1 p2 p3 u = some y) : Ex l G iX12_isBroken d [rv (some t0), .int p1, .int p2, .int p3] u (.returned (some (.int y))) u := Ex.of (by decide +kernel) (by decide) (Nat.le_of_ble_eq_true rfl) rfl (tX12_isBroken h)
theorem btX12_pumps_22 {l : Launch} {G : Gt} {d : Nat} {t0 : Nat} {i1 : Int32} {i2 : Int32} {u : Mem} {s3 : Int32} {s4 : Int32} {y : (Int32 × Int32) ⊕ (Int32)} {o : Outcome} {u' : Mem} (h : bX12_pumps_22 t0 i1 i2 u s3 s4 = some y) (k0 : ∀ s' : Int32 × Int32, y = .inl s' → Rn l G iX12_pumps (d + 2) 22 [(0, rv (some t0)), (1, .int i1), (2, .int i2), (3, .int s'.1), (4, .int s'.2)] [] u o u') (k1 : ∀ r : Int32, y = .inr (r) → Rn l G iX12_pumps (d + 2) 99 [(3, .int r)] [] u o u') : Rn l G iX12_pumps (d + 2) 22 [(0, rv (some t0)), (1, .int i1), (2, .int i2), (3, .int s3), (4, .int s4)] [] u o u' := by
  unfold bX12_pumps_22 at h
  refine rn_iload (pc := 22) 4 dX12_pumps_22 rfl ?_
  refine rn_aload_n (pc := 24) 0 dX12_pumps_24 rfl rfl ?_
  obtain ⟨v5, hv5, h1⟩ := bnd_some h
  refine rn_getI (pc := 25) (k := 27) okX12 (by decide) tw_1020 rfl dX12_pumps_25 hv5 ?_
  rcases if_elim h1 with ⟨c6, h2⟩ | ⟨c6, h2⟩
  · refine rn_ige_f (pc := 28) 99 dX12_pumps_28 (by decide) c6 ?_
    refine rn_aload_n (pc := 31) 0 dX12_pumps_31 rfl rfl ?_
    refine rn_iload_n (pc := 32) 1 dX12_pumps_32 rfl rfl ?_
    refine rn_aload_n (pc := 33) 0 dX12_pumps_33 rfl rfl ?_
    obtain ⟨v7, hv7, h3⟩ := bnd_some h2
    refine rn_getR (pc := 34) (k := 36) okX12 (by decide) tw_1029 rfl dX12_pumps_34 hv7 ?_
    refine rn_iload (pc := 37) 4 dX12_pumps_37 rfl ?_
    obtain ⟨v8, hv8, h4⟩ := bnd_some h3
    refine rn_iald (pc := 39) dX12_pumps_39 hv8 ?_
    refine rn_iload_n (pc := 40) 2 dX12_pumps_40 rfl rfl ?_
    obtain ⟨b9, hb9, h5⟩ := bnd_some h4
    obtain ⟨qb9, kb9⟩ := chk_elim hb9
    cases qb9
    obtain ⟨v10, hv10, h6⟩ := bnd_some h5
    refine rn_callV (pc := 41) (n := 3) (As := [.int i1, .int v8, .int i2]) (rest := []) (eX12_heldOn (d := d + 1) hv10) (by omega) okX12 kb9 tw_1259 tw_79 tw_1257 tw_1258 tw_44 (by decide +kernel) rfl (Nat.le_of_ble_eq_true rfl) dX12_pumps_41 rfl ?_
    refine rn_istore (pc := 44) (lv' := [(5, .int v10), (0, rv (some t0)), (1, .int i1), (2, .int i2), (3, .int s3), (4, .int s4)]) dX12_pumps_44 (by decide) rfl ?_
    refine rn_aload_n (pc := 46) 1 dX12_pumps_46 rfl rfl ?_
    refine rn_iload_n (pc := 47) 2 dX12_pumps_47 rfl rfl ?_
    refine rn_aload_n (pc := 48) 1 dX12_pumps_48 rfl rfl ?_
    obtain ⟨v11, hv11, h7⟩ := bnd_some h6
    refine rn_getR (pc := 49) (k := 37) okX12 (by decide) tw_1030 rfl dX12_pumps_49 hv11 ?_
    refine rn_iload (pc := 52) 5 dX12_pumps_52 rfl ?_
    obtain ⟨v12, hv12, h8⟩ := bnd_some h7
    refine rn_iald (pc := 54) dX12_pumps_54 hv12 ?_
    refine rn_iload_n (pc := 55) 3 dX12_pumps_55 rfl rfl ?_
    obtain ⟨b13, hb13, h9⟩ := bnd_some h8
    obtain ⟨qb13, kb13⟩ := chk_elim hb13
    cases qb13
    obtain ⟨v14, hv14, h10⟩ := bnd_some h9
    refine rn_callV (pc := 56) (n := 3) (As := [.int i1, .int v12, .int i2]) (rest := []) (eX12_heldOn (d := d + 1) hv14) (by omega) okX12 kb13 tw_1259 tw_79 tw_1257 tw_1258 tw_44 (by decide +kernel) rfl (Nat.le_of_ble_eq_true rfl) dX12_pumps_56 rfl ?_
    refine rn_istore (pc := 59) (lv' := [(6, .int v14), (5, .int v10), (0, rv (some t0)), (1, .int i1), (2, .int i2), (3, .int s3), (4, .int s4)]) dX12_pumps_59 (by decide) rfl ?_
    refine rn_iload (pc := 61) 1 dX12_pumps_61 rfl ?_
    refine rn_iconst (pc := 63) (v := -1) dX12_pumps_63 (by decide) ?_
    rcases if_elim h10 with ⟨c15, h11⟩ | ⟨c15, h11⟩
    · refine rn_ieq_t (pc := 64) (tgt := 93) dX12_pumps_64 (by decide) c15 ?_
      obtain ⟨x16, ex16, h12⟩ := nm_elim h11
      refine rn_iinc (pc := 93) (v := x16) (lv' := [(4, .int x16), (6, .int v14), (5, .int v10), (0, rv (some t0)), (1, .int i1), (2, .int i2), (3, .int s3)]) 6 dX12_pumps_93 rfl (by rw [ex16]; rfl) (by decide) rfl ?_
      refine rn_goto (pc := 96) (tgt := 22) dX12_pumps_96 (by decide) ?_
      cases h12
      exact rn_sub [3, 4, 5, 6, 0] rfl (k0 _ rfl)
    · refine rn_ieq_f (pc := 64) 93 dX12_pumps_64 (by decide) c15 ?_
      refine rn_iload (pc := 67) 0 dX12_pumps_67 rfl ?_
      refine rn_iconst (pc := 69) (v := -1) dX12_pumps_69 (by decide) ?_
      rcases if_elim h11 with ⟨c17, h13⟩ | ⟨c17, h13⟩
      · refine rn_ieq_t (pc := 70) (tgt := 93) dX12_pumps_70 (by decide) c17 ?_
        obtain ⟨x18, ex18, h14⟩ := nm_elim h13
        refine rn_iinc (pc := 93) (v := x18) (lv' := [(4, .int x18), (6, .int v14), (5, .int v10), (0, rv (some t0)), (1, .int i1), (2, .int i2), (3, .int s3)]) 6 dX12_pumps_93 rfl (by rw [ex18]; rfl) (by decide) rfl ?_
        refine rn_goto (pc := 96) (tgt := 22) dX12_pumps_96 (by decide) ?_
        cases h14
        exact rn_sub [3, 4, 5, 6, 0] rfl (k0 _ rfl)
      · refine rn_ieq_f (pc := 70) 93 dX12_pumps_70 (by decide) c17 ?_
        refine rn_aload_n (pc := 73) 2 dX12_pumps_73 rfl rfl ?_
        refine rn_iload (pc := 74) 6 dX12_pumps_74 rfl ?_
        refine rn_iload (pc := 76) 1 dX12_pumps_76 rfl ?_
        refine rn_iload (pc := 78) 0 dX12_pumps_78 rfl ?_
        obtain ⟨b19, hb19, h15⟩ := bnd_some h13
        obtain ⟨qb19, kb19⟩ := chk_elim hb19
        cases qb19
        obtain ⟨v20, hv20, h16⟩ := bnd_some h15
        refine rn_callV (pc := 80) (n := 3) (As := [.int s4, .int v10, .int v14]) (rest := []) (eX12_isBroken (d := d + 1) hv20) (by omega) okX12 kb19 tw_1381 tw_79 tw_1379 tw_1380 tw_64 (by decide +kernel) rfl (Nat.le_of_ble_eq_true rfl) dX12_pumps_80 rfl ?_
        rcases if_elim h16 with ⟨c21, h17⟩ | ⟨c21, h17⟩
        · refine rn_zeq_t (pc := 83) (tgt := 93) dX12_pumps_83 (by decide) c21 ?_
          obtain ⟨x22, ex22, h18⟩ := nm_elim h17
          refine rn_iinc (pc := 93) (v := x22) (lv' := [(4, .int x22), (6, .int v14), (5, .int v10), (0, rv (some t0)), (1, .int i1), (2, .int i2), (3, .int s3)]) 6 dX12_pumps_93 rfl (by rw [ex22]; rfl) (by decide) rfl ?_
          refine rn_goto (pc := 96) (tgt := 22) dX12_pumps_96 (by decide) ?_
          cases h18
          exact rn_sub [3, 4, 5, 6, 0] rfl (k0 _ rfl)
        · refine rn_zeq_f (pc := 83) 93 dX12_pumps_83 (by decide) c21 ?_
          refine rn_iload_n (pc := 86) 5 dX12_pumps_86 rfl rfl ?_
          refine rn_iconst (pc := 87) (v := 1) dX12_pumps_87 (by decide) ?_
          refine rn_iload (pc := 88) 6 dX12_pumps_88 rfl ?_
          refine rn_ishl (pc := 90) dX12_pumps_90 ?_
          refine rn_ior (pc := 91) dX12_pumps_91 ?_
          obtain ⟨x23, ex23, h19⟩ := nm_elim h17
          refine rn_topi ex23 ?_
          refine rn_istore_n (pc := 92) (lv' := [(3, .int x23), (6, .int v14), (5, .int v10), (0, rv (some t0)), (1, .int i1), (2, .int i2), (4, .int s4)]) dX12_pumps_92 rfl (by decide) rfl ?_
          obtain ⟨x24, ex24, h20⟩ := nm_elim h19
          refine rn_iinc (pc := 93) (v := x24) (lv' := [(4, .int x24), (3, .int x23), (6, .int v14), (5, .int v10), (0, rv (some t0)), (1, .int i1), (2, .int i2)]) 6 dX12_pumps_93 rfl (by rw [ex24]; rfl) (by decide) rfl ?_
          refine rn_goto (pc := 96) (tgt := 22) dX12_pumps_96 (by decide) ?_
          cases h20
          exact rn_sub [4, 5, 6, 1, 0] rfl (k0 _ rfl)
  · refine rn_ige_t (pc := 28) (tgt := 99) dX12_pumps_28 (by decide) c6 ?_
    cases h2
    exact rn_sub [3] rfl (k1 _ rfl)
theorem lX12_pumps_22 {l : Launch} {G : Gt} {d : Nat} {t0 : Nat} {i1 : Int32} {i2 : Int32} {u : Mem} {N : Nat} {s0 : Int32 × Int32} {r : Int32} {o : Outcome} {u' : Mem} (h : lp (fun s : Int32 × Int32 => bX12_pumps_22 t0 i1 i2 u s.1 s.2) N s0 = some r) (k1 : Rn l G iX12_pumps (d + 2) 99 [(3, .int r)] [] u o u') : Rn l G iX12_pumps (d + 2) 22 [(0, rv (some t0)), (1, .int i1), (2, .int i2), (3, .int s0.1), (4, .int s0.2)] [] u o u' :=
  lp_run (P := fun s : Int32 × Int32 => Rn l G iX12_pumps (d + 2) 22 [(0, rv (some t0)), (1, .int i1), (2, .int i2), (3, .int s.1), (4, .int s.2)] [] u o u') (E := fun r => Rn l G iX12_pumps (d + 2) 99 [(3, .int r)] [] u o u') (fun s y hy k0 kE => btX12_pumps_22 hy (fun s' e => k0 s' e) (fun r e => kE r e)) N s0 r h k1
theorem tX12_pumps {l : Launch} {G : Gt} {d : Nat} {t0 : Nat} {p1 : Int32} {p2 : Int32} {u : Mem} {y : Int32} (h : fX12_pumps t0 p1 p2 u = some y) : Rn l G iX12_pumps (d + 2) 0 [(0, rv (some t0)), (1, .int p1), (2, .int p2)] [] u (.returned (some (.int y))) u := by
  unfold fX12_pumps at h
  refine rn_iload_n (pc := 0) 1 dX12_pumps_0 rfl rfl ?_
  obtain ⟨v1, hv1, h1⟩ := bnd_some h
  refine rn_callS (pc := 1) (n := 1) (As := [.int p1]) (rest := []) (eX12_isGuesser (d := d + 0) hv1) (by omega) tw_1251 tw_79 tw_1249 tw_1250 (by decide +kernel) rfl (Nat.le_of_ble_eq_true rfl) dX12_pumps_1 rfl ?_
  rcases if_elim h1 with ⟨c2, h2⟩ | ⟨c2, h2⟩
  · refine rn_zeq_t (pc := 4) (tgt := 14) dX12_pumps_4 (by decide) c2 ?_
    refine rn_bipush (pc := 14) (v := -2) dX12_pumps_14 (by decide) ?_
    cases h2
    exact rn_iret (pc := 16) rfl dX12_pumps_16
  · refine rn_zeq_f (pc := 4) 14 dX12_pumps_4 (by decide) c2 ?_
    refine rn_iload_n (pc := 7) 2 dX12_pumps_7 rfl rfl ?_
    obtain ⟨v3, hv3, h3⟩ := bnd_some h2
    refine rn_callS (pc := 8) (n := 1) (As := [.int p2]) (rest := []) (eX12_isDay (d := d + 0) hv3) (by omega) tw_1235 tw_79 tw_1233 tw_1234 (by decide +kernel) rfl (Nat.le_of_ble_eq_true rfl) dX12_pumps_8 rfl ?_
    rcases if_elim h3 with ⟨c4, h4⟩ | ⟨c4, h4⟩
    · refine rn_zne_f (pc := 11) 17 dX12_pumps_11 (by decide) c4 ?_
      refine rn_bipush (pc := 14) (v := -2) dX12_pumps_14 (by decide) ?_
      cases h4
      exact rn_iret (pc := 16) rfl dX12_pumps_16
    · refine rn_zne_t (pc := 11) (tgt := 17) dX12_pumps_11 (by decide) c4 ?_
      refine rn_iconst (pc := 17) (v := 0) dX12_pumps_17 (by decide) ?_
      refine rn_istore_n (pc := 18) (lv' := [(3, .int (0 : Int32)), (0, rv (some t0)), (1, .int p1), (2, .int p2)]) dX12_pumps_18 rfl (by decide) rfl ?_
      refine rn_iconst (pc := 19) (v := 0) dX12_pumps_19 (by decide) ?_
      refine rn_istore (pc := 20) (lv' := [(4, .int (0 : Int32)), (3, .int (0 : Int32)), (0, rv (some t0)), (1, .int p1), (2, .int p2)]) dX12_pumps_20 (by decide) rfl ?_
      obtain ⟨r25, hr25, h5⟩ := bnd_some h4
      refine rn_sub [2, 3, 4, 1, 0] rfl (lX12_pumps_22 hr25 ?_)
      refine rn_iload_n (pc := 99) 0 dX12_pumps_99 rfl rfl ?_
      cases h5
      exact rn_iret (pc := 100) rfl dX12_pumps_100
theorem eX12_pumps {l : Launch} {G : Gt} {d : Nat} {t0 : Nat} {p1 : Int32} {p2 : Int32} {u : Mem} {y : Int32} (h : fX12_pumps t0 p1 p2 u = some y) : Ex l G iX12_pumps (d + 2) [rv (some t0), .int p1, .int p2] u (.returned (some (.int y))) u := Ex.of (by decide +kernel) (by decide) (Nat.le_of_ble_eq_true rfl) rfl (tX12_pumps h)
theorem btX12_mayBe_2 {l : Launch} {G : Gt} {d : Nat} {t0 : Nat} {i1 : Int32} {i2 : Int32} {u : Mem} {s3 : Int32} {y : (Int32) ⊕ ((Unit) ⊕ (Unit))} {o : Outcome} {u' : Mem} (h : bX12_mayBe_2 t0 i1 i2 u s3 = some y) (k0 : ∀ s' : Int32, y = .inl s' → Rn l G iX12_mayBe (d + 1) 2 [(0, rv (some t0)), (1, .int i1), (2, .int i2), (3, .int s')] [] u o u') (k1 : ∀ r : Unit, y = .inr (.inl r) → Rn l G iX12_mayBe (d + 1) 84 [] [] u o u') (k2 : ∀ r : Unit, y = .inr (.inr (r)) → Rn l G iX12_mayBe (d + 1) 76 [] [] u o u') : Rn l G iX12_mayBe (d + 1) 2 [(0, rv (some t0)), (1, .int i1), (2, .int i2), (3, .int s3)] [] u o u' := by
  unfold bX12_mayBe_2 at h
  refine rn_iload_n (pc := 2) 3 dX12_mayBe_2 rfl rfl ?_
  refine rn_aload_n (pc := 3) 0 dX12_mayBe_3 rfl rfl ?_
  obtain ⟨v1, hv1, h1⟩ := bnd_some h
  refine rn_getI (pc := 4) (k := 27) okX12 (by decide) tw_1020 rfl dX12_mayBe_4 hv1 ?_
  rcases if_elim h1 with ⟨c2, h2⟩ | ⟨c2, h2⟩
  · refine rn_ige_f (pc := 7) 84 dX12_mayBe_7 (by decide) c2 ?_
    refine rn_aload_n (pc := 10) 0 dX12_mayBe_10 rfl rfl ?_
    obtain ⟨v3, hv3, h3⟩ := bnd_some h2
    refine rn_getR (pc := 11) (k := 36) okX12 (by decide) tw_1029 rfl dX12_mayBe_11 hv3 ?_
    refine rn_iload_n (pc := 14) 3 dX12_mayBe_14 rfl rfl ?_
    obtain ⟨v4, hv4, h4⟩ := bnd_some h3
    refine rn_iald (pc := 15) dX12_mayBe_15 hv4 ?_
    refine rn_istore (pc := 16) (lv' := [(4, .int v4), (0, rv (some t0)), (1, .int i1), (2, .int i2), (3, .int s3)]) dX12_mayBe_16 (by decide) rfl ?_
    refine rn_aload_n (pc := 18) 1 dX12_mayBe_18 rfl rfl ?_
    obtain ⟨v5, hv5, h5⟩ := bnd_some h4
    refine rn_getR (pc := 19) (k := 37) okX12 (by decide) tw_1030 rfl dX12_mayBe_19 hv5 ?_
    refine rn_iload_n (pc := 22) 4 dX12_mayBe_22 rfl rfl ?_
    obtain ⟨v6, hv6, h6⟩ := bnd_some h5
    refine rn_iald (pc := 23) dX12_mayBe_23 hv6 ?_
    refine rn_istore (pc := 24) (lv' := [(5, .int v6), (4, .int v4), (0, rv (some t0)), (1, .int i1), (2, .int i2), (3, .int s3)]) dX12_mayBe_24 (by decide) rfl ?_
    refine rn_iload (pc := 26) 1 dX12_mayBe_26 rfl ?_
    refine rn_iload (pc := 28) 0 dX12_mayBe_28 rfl ?_
    refine rn_mmax (pc := 30) (rest := []) (by omega) tw_1392 (Nat.le_of_ble_eq_true rfl) dX12_mayBe_30 ?_
    refine rn_iload_n (pc := 33) 4 dX12_mayBe_33 rfl rfl ?_
    rcases if_elim h6 with ⟨c7, h7⟩ | ⟨c7, h7⟩
    · refine rn_ine_f (pc := 34) 78 dX12_mayBe_34 (by decide) c7 ?_
      refine rn_iload_n (pc := 37) 3 dX12_mayBe_37 rfl rfl ?_
      refine rn_iload (pc := 38) 1 dX12_mayBe_38 rfl ?_
      refine rn_iload (pc := 40) 0 dX12_mayBe_40 rfl ?_
      refine rn_mmin (pc := 42) (rest := [.int i1]) (by omega) tw_1283 (Nat.le_of_ble_eq_true rfl) dX12_mayBe_42 ?_
      refine rn_ishr (pc := 45) dX12_mayBe_45 ?_
      refine rn_iconst (pc := 46) (v := 1) dX12_mayBe_46 (by decide) ?_
      refine rn_iand (pc := 47) dX12_mayBe_47 ?_
      rcases if_elim h7 with ⟨c8, h8⟩ | ⟨c8, h8⟩
      · refine rn_zne_f (pc := 48) 54 dX12_mayBe_48 (by decide) c8 ?_
        refine rn_goto (pc := 51) (tgt := 78) dX12_mayBe_51 (by decide) ?_
        obtain ⟨x9, ex9, h9⟩ := nm_elim h8
        refine rn_iinc (pc := 78) (v := x9) (lv' := [(3, .int x9), (5, .int v6), (4, .int v4), (0, rv (some t0)), (1, .int i1), (2, .int i2)]) 5 dX12_mayBe_78 rfl (by rw [ex9]; rfl) (by decide) rfl ?_
        refine rn_goto (pc := 81) (tgt := 2) dX12_mayBe_81 (by decide) ?_
        cases h9
        exact rn_sub [3, 4, 5, 0] rfl (k0 _ rfl)
      · refine rn_zne_t (pc := 48) (tgt := 54) dX12_mayBe_48 (by decide) c8 ?_
        refine rn_aload_n (pc := 54) 2 dX12_mayBe_54 rfl rfl ?_
        refine rn_iload_n (pc := 55) 5 dX12_mayBe_55 rfl rfl ?_
        refine rn_aload_n (pc := 56) 2 dX12_mayBe_56 rfl rfl ?_
        obtain ⟨v10, hv10, h10⟩ := bnd_some h8
        refine rn_getR (pc := 57) (k := 52) okX12 (by decide) tw_1045 rfl dX12_mayBe_57 hv10 ?_
        refine rn_iload (pc := 60) 1 dX12_mayBe_60 rfl ?_
        obtain ⟨v11, hv11, h11⟩ := bnd_some h10
        refine rn_iald (pc := 62) dX12_mayBe_62 hv11 ?_
        refine rn_aload_n (pc := 63) 2 dX12_mayBe_63 rfl rfl ?_
        obtain ⟨v12, hv12, h12⟩ := bnd_some h11
        refine rn_getR (pc := 64) (k := 52) okX12 (by decide) tw_1045 rfl dX12_mayBe_64 hv12 ?_
        refine rn_iload (pc := 67) 0 dX12_mayBe_67 rfl ?_
        obtain ⟨v13, hv13, h13⟩ := bnd_some h12
        refine rn_iald (pc := 69) dX12_mayBe_69 hv13 ?_
        obtain ⟨b14, hb14, h14⟩ := bnd_some h13
        obtain ⟨qb14, kb14⟩ := chk_elim hb14
        cases qb14
        obtain ⟨v15, hv15, h15⟩ := bnd_some h14
        refine rn_callV (pc := 70) (n := 3) (As := [.int s3, .int v11, .int v13]) (rest := []) (eX12_isBroken (d := d + 0) hv15) (by omega) okX12 kb14 tw_1381 tw_79 tw_1379 tw_1380 tw_64 (by decide +kernel) rfl (Nat.le_of_ble_eq_true rfl) dX12_mayBe_70 rfl ?_
        rcases if_elim h15 with ⟨c16, h16⟩ | ⟨c16, h16⟩
        · refine rn_zeq_t (pc := 73) (tgt := 78) dX12_mayBe_73 (by decide) c16 ?_
          obtain ⟨x17, ex17, h17⟩ := nm_elim h16
          refine rn_iinc (pc := 78) (v := x17) (lv' := [(3, .int x17), (5, .int v6), (4, .int v4), (0, rv (some t0)), (1, .int i1), (2, .int i2)]) 5 dX12_mayBe_78 rfl (by rw [ex17]; rfl) (by decide) rfl ?_
          refine rn_goto (pc := 81) (tgt := 2) dX12_mayBe_81 (by decide) ?_
          cases h17
          exact rn_sub [3, 4, 5, 0] rfl (k0 _ rfl)
        · refine rn_zeq_f (pc := 73) 78 dX12_mayBe_73 (by decide) c16 ?_
          cases h16
          exact rn_sub [] rfl (k2 _ rfl)
    · refine rn_ine_t (pc := 34) (tgt := 78) dX12_mayBe_34 (by decide) c7 ?_
      obtain ⟨x18, ex18, h18⟩ := nm_elim h7
      refine rn_iinc (pc := 78) (v := x18) (lv' := [(3, .int x18), (5, .int v6), (4, .int v4), (0, rv (some t0)), (1, .int i1), (2, .int i2)]) 5 dX12_mayBe_78 rfl (by rw [ex18]; rfl) (by decide) rfl ?_
      refine rn_goto (pc := 81) (tgt := 2) dX12_mayBe_81 (by decide) ?_
      cases h18
      exact rn_sub [3, 4, 5, 0] rfl (k0 _ rfl)
  · refine rn_ige_t (pc := 7) (tgt := 84) dX12_mayBe_7 (by decide) c2 ?_
    cases h2
    exact rn_sub [] rfl (k1 _ rfl)
theorem lX12_mayBe_2 {l : Launch} {G : Gt} {d : Nat} {t0 : Nat} {i1 : Int32} {i2 : Int32} {u : Mem} {N : Nat} {s0 : Int32} {r : (Unit) ⊕ (Unit)} {o : Outcome} {u' : Mem} (h : lp (fun s : Int32 => bX12_mayBe_2 t0 i1 i2 u s) N s0 = some r) (k1 : ∀ r' : Unit, r = .inl r' → Rn l G iX12_mayBe (d + 1) 84 [] [] u o u') (k2 : ∀ r' : Unit, r = .inr (r') → Rn l G iX12_mayBe (d + 1) 76 [] [] u o u') : Rn l G iX12_mayBe (d + 1) 2 [(0, rv (some t0)), (1, .int i1), (2, .int i2), (3, .int s0)] [] u o u' :=
  lp_run (P := fun s : Int32 => Rn l G iX12_mayBe (d + 1) 2 [(0, rv (some t0)), (1, .int i1), (2, .int i2), (3, .int s)] [] u o u') (E := fun r => (∀ r' : Unit, r = .inl r' → Rn l G iX12_mayBe (d + 1) 84 [] [] u o u') ∧ (∀ r' : Unit, r = .inr (r') → Rn l G iX12_mayBe (d + 1) 76 [] [] u o u')) (fun s y hy k0 kE => btX12_mayBe_2 hy (fun s' e => k0 s' e) (fun r e => (kE _ e).1 r rfl) (fun r e => (kE _ e).2 r rfl)) N s0 r h ⟨k1, k2⟩
theorem tX12_mayBe {l : Launch} {G : Gt} {d : Nat} {t0 : Nat} {p1 : Int32} {p2 : Int32} {u : Mem} {y : Int32} (h : fX12_mayBe t0 p1 p2 u = some y) : Rn l G iX12_mayBe (d + 1) 0 [(0, rv (some t0)), (1, .int p1), (2, .int p2)] [] u (.returned (some (.int y))) u := by
  unfold fX12_mayBe at h
  refine rn_iconst (pc := 0) (v := 0) dX12_mayBe_0 (by decide) ?_
  refine rn_istore_n (pc := 1) (lv' := [(3, .int (0 : Int32)), (0, rv (some t0)), (1, .int p1), (2, .int p2)]) dX12_mayBe_1 rfl (by decide) rfl ?_
  obtain ⟨r19, hr19, h1⟩ := bnd_some h
  rcases r19 with r20 | r21
  · refine rn_sub [1, 2, 3, 0] rfl (lX12_mayBe_2 hr19 (fun _ hq => ?_) (fun _ hq => by cases hq))
    cases hq
    have h2 := sumE_l h1
    refine rn_iconst (pc := 84) (v := 1) dX12_mayBe_84 (by decide) ?_
    cases h2
    exact rn_zret (pc := 85) (by decide) rfl dX12_mayBe_85
  · refine rn_sub [1, 2, 3, 0] rfl (lX12_mayBe_2 hr19 (fun _ hq => by cases hq) (fun _ hq => ?_))
    cases hq
    have h3 := sumE_r h1
    refine rn_iconst (pc := 76) (v := 0) dX12_mayBe_76 (by decide) ?_
    cases h3
    exact rn_zret (pc := 77) (by decide) rfl dX12_mayBe_77
theorem eX12_mayBe {l : Launch} {G : Gt} {d : Nat} {t0 : Nat} {p1 : Int32} {p2 : Int32} {u : Mem} {y : Int32} (h : fX12_mayBe t0 p1 p2 u = some y) : Ex l G iX12_mayBe (d + 1) [rv (some t0), .int p1, .int p2] u (.returned (some (.int y))) u := Ex.of (by decide +kernel) (by decide) (Nat.le_of_ble_eq_true rfl) rfl (tX12_mayBe h)
theorem btX12_mendFrom_25 {l : Launch} {G : Gt} {d : Nat} {F : Nat → Int32 → Int32 → Int32 → Mem → Option (Mem)} {dF : Nat} (hF : ∀ (t0 : Nat) (p1 : Int32) (p2 : Int32) (p3 : Int32) (u : Mem) (y : Mem), F t0 p1 p2 p3 u = some y → Ex l G iX12_mendFrom dF [rv (some t0), .int p1, .int p2, .int p3] u (.returned none) y) (hdF : dF + 1 ≤ d + 2) {t0 : Nat} {s4 : Int32} {u : Mem} {y : (Int32 × Mem) ⊕ (Mem)} {o : Outcome} {u' : Mem} (h : bX12_mendFrom_25 F t0 s4 u = some y) (k0 : ∀ s' : Int32 × Mem, y = .inl s' → Rn l G iX12_mendFrom (d + 2) 25 [(0, rv (some t0)), (4, .int s'.1)] [] s'.2 o u') (k1 : ∀ r : Mem, y = .inr (r) → Rn l G iX12_mendFrom (d + 2) 54 [] [] r o u') : Rn l G iX12_mendFrom (d + 2) 25 [(0, rv (some t0)), (4, .int s4)] [] u o u' := by
  unfold bX12_mendFrom_25 at h
  refine rn_iload (pc := 25) 1 dX12_mendFrom_25 rfl ?_
  refine rn_aload_n (pc := 27) 0 dX12_mendFrom_27 rfl rfl ?_
  obtain ⟨v6, hv6, h1⟩ := bnd_some h
  refine rn_getI (pc := 28) (k := 25) okX12 (by decide) tw_1018 rfl dX12_mendFrom_28 hv6 ?_
  rcases if_elim h1 with ⟨c7, h2⟩ | ⟨c7, h2⟩
  · refine rn_ige_f (pc := 31) 54 dX12_mendFrom_31 (by decide) c7 ?_
    refine rn_aload_n (pc := 34) 0 dX12_mendFrom_34 rfl rfl ?_
    obtain ⟨v8, hv8, h3⟩ := bnd_some h2
    refine rn_getR (pc := 35) (k := 54) okX12 (by decide) tw_1047 rfl dX12_mendFrom_35 hv8 ?_
    refine rn_iload (pc := 38) 1 dX12_mendFrom_38 rfl ?_
    refine rn_aload_n (pc := 40) 0 dX12_mendFrom_40 rfl rfl ?_
    obtain ⟨v9, hv9, h4⟩ := bnd_some h3
    refine rn_getR (pc := 41) (k := 52) okX12 (by decide) tw_1045 rfl dX12_mendFrom_41 hv9 ?_
    refine rn_iload (pc := 44) 1 dX12_mendFrom_44 rfl ?_
    obtain ⟨v10, hv10, h5⟩ := bnd_some h4
    refine rn_iald (pc := 46) dX12_mendFrom_46 hv10 ?_
    obtain ⟨u11, hu11, h6⟩ := bnd_some h5
    refine rn_iast (pc := 47) dX12_mendFrom_47 hu11 ?_
    obtain ⟨x12, ex12, h7⟩ := nm_elim h6
    refine rn_iinc (pc := 48) (v := x12) (lv' := [(4, .int x12), (0, rv (some t0))]) 1 dX12_mendFrom_48 rfl (by rw [ex12]; rfl) (by decide) rfl ?_
    refine rn_goto (pc := 51) (tgt := 25) dX12_mendFrom_51 (by decide) ?_
    cases h7
    exact rn_sub [1, 0] rfl (k0 _ rfl)
  · refine rn_ige_t (pc := 31) (tgt := 54) dX12_mendFrom_31 (by decide) c7 ?_
    cases h2
    exact rn_sub [] rfl (k1 _ rfl)
theorem lX12_mendFrom_25 {l : Launch} {G : Gt} {d : Nat} {F : Nat → Int32 → Int32 → Int32 → Mem → Option (Mem)} {dF : Nat} (hF : ∀ (t0 : Nat) (p1 : Int32) (p2 : Int32) (p3 : Int32) (u : Mem) (y : Mem), F t0 p1 p2 p3 u = some y → Ex l G iX12_mendFrom dF [rv (some t0), .int p1, .int p2, .int p3] u (.returned none) y) (hdF : dF + 1 ≤ d + 2) {t0 : Nat} {N : Nat} {s0 : Int32 × Mem} {r : Mem} {o : Outcome} {u' : Mem} (h : lp (fun s : Int32 × Mem => bX12_mendFrom_25 F t0 s.1 s.2) N s0 = some r) (k1 : Rn l G iX12_mendFrom (d + 2) 54 [] [] r o u') : Rn l G iX12_mendFrom (d + 2) 25 [(0, rv (some t0)), (4, .int s0.1)] [] s0.2 o u' :=
  lp_run (P := fun s : Int32 × Mem => Rn l G iX12_mendFrom (d + 2) 25 [(0, rv (some t0)), (4, .int s.1)] [] s.2 o u') (E := fun r => Rn l G iX12_mendFrom (d + 2) 54 [] [] r o u') (fun s y hy k0 kE => btX12_mendFrom_25 hF hdF hy (fun s' e => k0 s' e) (fun r e => kE r e)) N s0 r h k1
theorem btX12_mendFrom_76 {l : Launch} {G : Gt} {d : Nat} {F : Nat → Int32 → Int32 → Int32 → Mem → Option (Mem)} {dF : Nat} (hF : ∀ (t0 : Nat) (p1 : Int32) (p2 : Int32) (p3 : Int32) (u : Mem) (y : Mem), F t0 p1 p2 p3 u = some y → Ex l G iX12_mendFrom dF [rv (some t0), .int p1, .int p2, .int p3] u (.returned none) y) (hdF : dF + 1 ≤ d + 2) {t0 : Nat} {i1 : Int32} {i2 : Int32} {i3 : Int32} {s4 : Int32} {u : Mem} {y : (Int32 × Mem) ⊕ (Mem)} {o : Outcome} {u' : Mem} (h : bX12_mendFrom_76 F t0 i1 i2 i3 s4 u = some y) (k0 : ∀ s' : Int32 × Mem, y = .inl s' → Rn l G iX12_mendFrom (d + 2) 76 [(0, rv (some t0)), (1, .int i1), (2, .int i2), (3, .int i3), (4, .int s'.1)] [] s'.2 o u') (k1 : ∀ r : Mem, y = .inr (r) → Rn l G iX12_mendFrom (d + 2) 128 [] [] r o u') : Rn l G iX12_mendFrom (d + 2) 76 [(0, rv (some t0)), (1, .int i1), (2, .int i2), (3, .int i3), (4, .int s4)] [] u o u' := by
  unfold bX12_mendFrom_76 at h
  refine rn_iload (pc := 76) 4 dX12_mendFrom_76 rfl ?_
  refine rn_bipush (pc := 78) (v := 11) dX12_mendFrom_78 (by decide) ?_
  rcases if_elim h with ⟨c17, h1⟩ | ⟨c17, h1⟩
  · refine rn_ige_f (pc := 80) 128 dX12_mendFrom_80 (by decide) c17 ?_
    refine rn_aload_n (pc := 83) 0 dX12_mendFrom_83 rfl rfl ?_
    obtain ⟨v18, hv18, h2⟩ := bnd_some h1
    refine rn_getR (pc := 84) (k := 52) okX12 (by decide) tw_1045 rfl dX12_mendFrom_84 hv18 ?_
    refine rn_iload_n (pc := 87) 2 dX12_mendFrom_87 rfl rfl ?_
    refine rn_iload (pc := 88) 4 dX12_mendFrom_88 rfl ?_
    obtain ⟨u19, hu19, h3⟩ := bnd_some h2
    refine rn_iast (pc := 90) dX12_mendFrom_90 hu19 ?_
    refine rn_aload_n (pc := 91) 0 dX12_mendFrom_91 rfl rfl ?_
    refine rn_iload_n (pc := 92) 1 dX12_mendFrom_92 rfl rfl ?_
    refine rn_iload_n (pc := 93) 2 dX12_mendFrom_93 rfl rfl ?_
    obtain ⟨b20, hb20, h4⟩ := bnd_some h3
    obtain ⟨qb20, kb20⟩ := chk_elim hb20
    cases qb20
    obtain ⟨v21, hv21, h5⟩ := bnd_some h4
    refine rn_callV (pc := 94) (n := 2) (As := [.int i1, .int i2]) (rest := []) (eX12_mayBe (d := d + 0) hv21) (by omega) okX12 kb20 tw_1391 tw_79 tw_1389 tw_1390 tw_66 (by decide +kernel) rfl (Nat.le_of_ble_eq_true rfl) dX12_mendFrom_94 rfl ?_
    rcases if_elim h5 with ⟨c22, h6⟩ | ⟨c22, h6⟩
    · refine rn_zeq_t (pc := 97) (tgt := 122) dX12_mendFrom_97 (by decide) c22 ?_
      obtain ⟨x23, ex23, h7⟩ := nm_elim h6
      refine rn_iinc (pc := 122) (v := x23) (lv' := [(4, .int x23), (0, rv (some t0)), (1, .int i1), (2, .int i2), (3, .int i3)]) 4 dX12_mendFrom_122 rfl (by rw [ex23]; rfl) (by decide) rfl ?_
      refine rn_goto (pc := 125) (tgt := 76) dX12_mendFrom_125 (by decide) ?_
      cases h7
      exact rn_sub [1, 2, 3, 4, 0] rfl (k0 _ rfl)
    · refine rn_zeq_f (pc := 97) 122 dX12_mendFrom_97 (by decide) c22 ?_
      refine rn_aload_n (pc := 100) 0 dX12_mendFrom_100 rfl rfl ?_
      refine rn_iload_n (pc := 101) 1 dX12_mendFrom_101 rfl rfl ?_
      refine rn_iload_n (pc := 102) 2 dX12_mendFrom_102 rfl rfl ?_
      refine rn_iconst (pc := 103) (v := 1) dX12_mendFrom_103 (by decide) ?_
      refine rn_iadd (pc := 104) dX12_mendFrom_104 ?_
      refine rn_iload_n (pc := 105) 3 dX12_mendFrom_105 rfl rfl ?_
      refine rn_iload (pc := 106) 4 dX12_mendFrom_106 rfl ?_
      refine rn_aload_n (pc := 108) 0 dX12_mendFrom_108 rfl rfl ?_
      obtain ⟨v24, hv24, h8⟩ := bnd_some h6
      refine rn_getR (pc := 109) (k := 53) okX12 (by decide) tw_1046 rfl dX12_mendFrom_109 hv24 ?_
      refine rn_iload_n (pc := 112) 2 dX12_mendFrom_112 rfl rfl ?_
      obtain ⟨v25, hv25, h9⟩ := bnd_some h8
      refine rn_iald (pc := 113) dX12_mendFrom_113 hv25 ?_
      refine rn_isub (pc := 114) dX12_mendFrom_114 ?_
      refine rn_mabs (pc := 115) (rest := [.int i3, .int (i2 + (1 : Int32)), .int i1, rv (some t0)]) (by omega) tw_1393 (Nat.le_of_ble_eq_true rfl) dX12_mendFrom_115 ?_
      refine rn_iadd (pc := 118) dX12_mendFrom_118 ?_
      obtain ⟨b26, hb26, h10⟩ := bnd_some h9
      obtain ⟨qb26, kb26⟩ := chk_elim hb26
      cases qb26
      obtain ⟨u27, hu27, h11⟩ := bnd_some h10
      refine rn_callV (pc := 119) (n := 3) (As := [.int i1, .int (i2 + (1 : Int32)), .int (i3 + (abI (s4 - v25)))]) (rest := []) (hF _ _ _ _ _ _ hu27) (by omega) okX12 kb26 tw_1388 tw_79 tw_1386 tw_1387 tw_65 (by decide +kernel) rfl (Nat.le_of_ble_eq_true rfl) dX12_mendFrom_119 rfl ?_
      obtain ⟨x28, ex28, h12⟩ := nm_elim h11
      refine rn_iinc (pc := 122) (v := x28) (lv' := [(4, .int x28), (0, rv (some t0)), (1, .int i1), (2, .int i2), (3, .int i3)]) 4 dX12_mendFrom_122 rfl (by rw [ex28]; rfl) (by decide) rfl ?_
      refine rn_goto (pc := 125) (tgt := 76) dX12_mendFrom_125 (by decide) ?_
      cases h12
      exact rn_sub [1, 2, 3, 4, 0] rfl (k0 _ rfl)
  · refine rn_ige_t (pc := 80) (tgt := 128) dX12_mendFrom_80 (by decide) c17 ?_
    cases h1
    exact rn_sub [] rfl (k1 _ rfl)
theorem lX12_mendFrom_76 {l : Launch} {G : Gt} {d : Nat} {F : Nat → Int32 → Int32 → Int32 → Mem → Option (Mem)} {dF : Nat} (hF : ∀ (t0 : Nat) (p1 : Int32) (p2 : Int32) (p3 : Int32) (u : Mem) (y : Mem), F t0 p1 p2 p3 u = some y → Ex l G iX12_mendFrom dF [rv (some t0), .int p1, .int p2, .int p3] u (.returned none) y) (hdF : dF + 1 ≤ d + 2) {t0 : Nat} {i1 : Int32} {i2 : Int32} {i3 : Int32} {N : Nat} {s0 : Int32 × Mem} {r : Mem} {o : Outcome} {u' : Mem} (h : lp (fun s : Int32 × Mem => bX12_mendFrom_76 F t0 i1 i2 i3 s.1 s.2) N s0 = some r) (k1 : Rn l G iX12_mendFrom (d + 2) 128 [] [] r o u') : Rn l G iX12_mendFrom (d + 2) 76 [(0, rv (some t0)), (1, .int i1), (2, .int i2), (3, .int i3), (4, .int s0.1)] [] s0.2 o u' :=
  lp_run (P := fun s : Int32 × Mem => Rn l G iX12_mendFrom (d + 2) 76 [(0, rv (some t0)), (1, .int i1), (2, .int i2), (3, .int i3), (4, .int s.1)] [] s.2 o u') (E := fun r => Rn l G iX12_mendFrom (d + 2) 128 [] [] r o u') (fun s y hy k0 kE => btX12_mendFrom_76 hF hdF hy (fun s' e => k0 s' e) (fun r e => kE r e)) N s0 r h k1
theorem tX12_mendFrom {l : Launch} {G : Gt} {d : Nat} {F : Nat → Int32 → Int32 → Int32 → Mem → Option (Mem)} {dF : Nat} (hF : ∀ (t0 : Nat) (p1 : Int32) (p2 : Int32) (p3 : Int32) (u : Mem) (y : Mem), F t0 p1 p2 p3 u = some y → Ex l G iX12_mendFrom dF [rv (some t0), .int p1, .int p2, .int p3] u (.returned none) y) (hdF : dF + 1 ≤ d + 2) {t0 : Nat} {p1 : Int32} {p2 : Int32} {p3 : Int32} {u : Mem} {y : Mem} (h : gX12_mendFrom F t0 p1 p2 p3 u = some y) : Rn l G iX12_mendFrom (d + 2) 0 [(0, rv (some t0)), (1, .int p1), (2, .int p2), (3, .int p3)] [] u (.returned none) y := by
  unfold gX12_mendFrom at h
  refine rn_iload_n (pc := 0) 3 dX12_mendFrom_0 rfl rfl ?_
  refine rn_aload_n (pc := 1) 0 dX12_mendFrom_1 rfl rfl ?_
  obtain ⟨v1, hv1, h1⟩ := bnd_some h
  refine rn_getI (pc := 2) (k := 55) okX12 (by decide) tw_1048 rfl dX12_mendFrom_2 hv1 ?_
  rcases if_elim h1 with ⟨c2, h2⟩ | ⟨c2, h2⟩
  · refine rn_ilt_t (pc := 5) (tgt := 9) dX12_mendFrom_5 (by decide) c2 ?_
    refine rn_iload_n (pc := 9) 2 dX12_mendFrom_9 rfl rfl ?_
    refine rn_aload_n (pc := 10) 0 dX12_mendFrom_10 rfl rfl ?_
    obtain ⟨v3, hv3, h3⟩ := bnd_some h2
    refine rn_getI (pc := 11) (k := 25) okX12 (by decide) tw_1018 rfl dX12_mendFrom_11 hv3 ?_
    rcases if_elim h3 with ⟨c4, h4⟩ | ⟨c4, h4⟩
    · refine rn_ine_f (pc := 14) 55 dX12_mendFrom_14 (by decide) c4 ?_
      refine rn_aload_n (pc := 17) 0 dX12_mendFrom_17 rfl rfl ?_
      refine rn_iload_n (pc := 18) 3 dX12_mendFrom_18 rfl rfl ?_
      obtain ⟨u5, hu5, h5⟩ := bnd_some h4
      refine rn_putI (pc := 19) (k := 55) okX12 (by decide) tw_1048 (Or.inl rfl) (Or.inl rfl) dX12_mendFrom_19 hu5 ?_
      refine rn_iconst (pc := 22) (v := 0) dX12_mendFrom_22 (by decide) ?_
      refine rn_istore (pc := 23) (lv' := [(4, .int (0 : Int32)), (0, rv (some t0)), (1, .int p1), (2, .int p2), (3, .int p3)]) dX12_mendFrom_23 (by decide) rfl ?_
      obtain ⟨r13, hr13, h6⟩ := bnd_some h5
      refine rn_sub [1, 0] rfl (lX12_mendFrom_25 hF hdF hr13 ?_)
      cases h6
      exact rn_vret (pc := 54) rfl dX12_mendFrom_54
    · refine rn_ine_t (pc := 14) (tgt := 55) dX12_mendFrom_14 (by decide) c4 ?_
      refine rn_iload_n (pc := 55) 1 dX12_mendFrom_55 rfl rfl ?_
      refine rn_iload_n (pc := 56) 2 dX12_mendFrom_56 rfl rfl ?_
      refine rn_ishr (pc := 57) dX12_mendFrom_57 ?_
      refine rn_iconst (pc := 58) (v := 1) dX12_mendFrom_58 (by decide) ?_
      refine rn_iand (pc := 59) dX12_mendFrom_59 ?_
      rcases if_elim h4 with ⟨c14, h7⟩ | ⟨c14, h7⟩
      · refine rn_zne_f (pc := 60) 73 dX12_mendFrom_60 (by decide) c14 ?_
        refine rn_aload_n (pc := 63) 0 dX12_mendFrom_63 rfl rfl ?_
        refine rn_iload_n (pc := 64) 1 dX12_mendFrom_64 rfl rfl ?_
        refine rn_iload_n (pc := 65) 2 dX12_mendFrom_65 rfl rfl ?_
        refine rn_iconst (pc := 66) (v := 1) dX12_mendFrom_66 (by decide) ?_
        refine rn_iadd (pc := 67) dX12_mendFrom_67 ?_
        refine rn_iload_n (pc := 68) 3 dX12_mendFrom_68 rfl rfl ?_
        obtain ⟨b15, hb15, h8⟩ := bnd_some h7
        obtain ⟨qb15, kb15⟩ := chk_elim hb15
        cases qb15
        obtain ⟨u16, hu16, h9⟩ := bnd_some h8
        refine rn_callV (pc := 69) (n := 3) (As := [.int p1, .int (p2 + (1 : Int32)), .int p3]) (rest := []) (hF _ _ _ _ _ _ hu16) (by omega) okX12 kb15 tw_1388 tw_79 tw_1386 tw_1387 tw_65 (by decide +kernel) rfl (Nat.le_of_ble_eq_true rfl) dX12_mendFrom_69 rfl ?_
        cases h9
        exact rn_vret (pc := 72) rfl dX12_mendFrom_72
      · refine rn_zne_t (pc := 60) (tgt := 73) dX12_mendFrom_60 (by decide) c14 ?_
        refine rn_iconst (pc := 73) (v := 0) dX12_mendFrom_73 (by decide) ?_
        refine rn_istore (pc := 74) (lv' := [(4, .int (0 : Int32)), (0, rv (some t0)), (1, .int p1), (2, .int p2), (3, .int p3)]) dX12_mendFrom_74 (by decide) rfl ?_
        obtain ⟨r29, hr29, h10⟩ := bnd_some h7
        refine rn_sub [1, 2, 3, 4, 0] rfl (lX12_mendFrom_76 hF hdF hr29 ?_)
        cases h10
        exact rn_vret (pc := 128) rfl dX12_mendFrom_128
  · refine rn_ilt_f (pc := 5) 9 dX12_mendFrom_5 (by decide) c2 ?_
    cases h2
    exact rn_vret (pc := 8) rfl dX12_mendFrom_8
theorem eX12_mendFrom {l : Launch} {G : Gt} : ∀ (n : Nat) (t0 : Nat) (p1 : Int32) (p2 : Int32) (p3 : Int32) (u : Mem) (y : Mem), fX12_mendFrom n t0 p1 p2 p3 u = some y → Ex l G iX12_mendFrom (n + 2) [rv (some t0), .int p1, .int p2, .int p3] u (.returned none) y := by
  intro n
  induction n with
  | zero => intro t0 p1 p2 p3 u y h; cases h
  | succ n ih =>
    intro t0 p1 p2 p3 u y h
    exact Ex.of (by decide +kernel) (by decide) (Nat.le_of_ble_eq_true rfl) rfl (tX12_mendFrom (d := n + 1) (dF := n + 2) ih (by omega) h)
