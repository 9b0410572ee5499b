abbrev iX4_leastChange : MI := (yX4_leastChange, cX4_leastChange, 2, (some .int))
def bX4_leastChange_7 (t0 : Nat) (s1 : Int32) (u : Mem) : Option ((Int32 × Mem) ⊕ (Mem)) :=
  (gfI u (some t0) 4 7).bind fun v2 =>
  if s1 < v2 then
    (gfI u (some t0) 4 8).bind fun v4 =>
    (gfR u (some t0) 4 4).bind fun v5 =>
    (alI u v5 20 s1).bind fun v6 =>
    (pfI u (some t0) 4 8 (v4 + (abI (v6 - (5 : Int32))))).bind fun u7 =>
    nm (s1 + 1 : Int32) fun x8 =>
    some (.inl (x8, u7))
  else
    some (.inr u)
def bX4_leastChange_57 (t0 : Nat) (s1 : Int32) (u : Mem) : Option ((Int32 × Mem) ⊕ (Mem)) :=
  (gfI u (some t0) 4 7).bind fun v14 =>
  if s1 < v14 then
    (gfR u (some t0) 4 0).bind fun v16 =>
    (gfR u (some t0) 4 3).bind fun v17 =>
    (alI u v17 20 s1).bind fun v18 =>
    (gfR u (some t0) 4 6).bind fun v19 =>
    (alI u v19 20 s1).bind fun v20 =>
    (asI u v16 20 v18 v20).bind fun u21 =>
    nm (s1 + 1 : Int32) fun x22 =>
    some (.inl (x22, u21))
  else
    some (.inr u)
def fX4_leastChange (t0 : Nat) (u : Mem) : Option (Int32 × Mem) :=
  (pfI u (some t0) 4 8 (1 : Int32)).bind fun u1 =>
  (lp (fun s : Int32 × Mem => bX4_leastChange_7 t0 s.1 s.2) FU ((0 : Int32), u1)).bind fun r9 =>
  (chk r9 (some t0) 4).bind fun b10 =>
  (fX4_tryTenths 6 t0 (0 : Int32) (0 : Int32) r9).bind fun u11 =>
  (gfR u11 (some t0) 4 0).bind fun v12 =>
  (fJ7_fill_53178 v12 (-1 : Int32) u11).bind fun u13 =>
  (lp (fun s : Int32 × Mem => bX4_leastChange_57 t0 s.1 s.2) FU ((0 : Int32), u13)).bind fun r23 =>
  (gfI r23 (some t0) 4 8).bind fun v24 =>
  some (v24, r23)
abbrev iX7_reset : MI := (yX7_reset, cX7_reset, 2, (Option.none : Option FieldType))
def bX7_reset_2 (t0 : Nat) (s1 : Int32) (u : Mem) : Option ((Int32 × Mem) ⊕ (Mem)) :=
  if s1 < (11 : Int32) then
    (gfR u (some t0) 7 0).bind fun v2 =>
    (asI u v2 20 s1 ((((10 : Int32) - s1) * ((10 : Int32) - s1)))).bind fun u3 =>
    (gfR u3 (some t0) 7 1).bind fun v4 =>
    (asI u3 v4 20 s1 ((s1 * s1))).bind fun u5 =>
    nm (s1 + 1 : Int32) fun x6 =>
    some (.inl (x6, u5))
  else
    some (.inr u)
def fX7_reset (t0 : Nat) (u : Mem) : Option (Mem) :=
  (lp (fun s : Int32 × Mem => bX7_reset_2 t0 s.1 s.2) FU ((0 : Int32), u)).bind fun r7 =>
  (pfI r7 (some t0) 7 2 (0 : Int32)).bind fun u8 =>
  (pfI u8 (some t0) 7 3 (0 : Int32)).bind fun u9 =>
  (pfI u9 (some t0) 7 4 (-1 : Int32)).bind fun u10 =>
  (pfI u10 (some t0) 7 5 (-1 : Int32)).bind fun u11 =>
  (pfI u11 (some t0) 7 6 (1 : Int32)).bind fun u12 =>
  some u12
abbrev iX7_init : MI := (yX7_init, cX7_init, 1, (Option.none : Option FieldType))
def fX7_init (t0 : Nat) (u : Mem) : Option (Mem) :=
  bnd2 (nwc u 20 11) fun a1 u2 =>
  (pfR u2 (some t0) 7 0 (some a1)).bind fun u3 =>
  bnd2 (nwc u3 20 11) fun a4 u5 =>
  (pfR u5 (some t0) 7 1 (some a4)).bind fun u6 =>
  (chk u6 (some t0) 7).bind fun b7 =>
  (fX7_reset t0 u6).bind fun u8 =>
  some u8
abbrev iX6_init : MI := (yX6_init, cX6_init, 2, (Option.none : Option FieldType))
def fX6_init (t0 : Nat) (p1 : Option Nat) (u : Mem) : Option (Mem) :=
  bnd2 (nwc u 7 7) fun a1 u2 =>
  (fX7_init a1 u2).bind fun u3 =>
  (pfR u3 (some t0) 6 0 (some a1)).bind fun u4 =>
  (pfI u4 (some t0) 6 2 (-1 : Int32)).bind fun u5 =>
  (pfR u5 (some t0) 6 3 p1).bind fun u6 =>
  some u6
abbrev iX6_begin : MI := (yX6_begin, cX6_begin, 1, (Option.none : Option FieldType))
def fX6_begin (t0 : Nat) (u : Mem) : Option (Mem) :=
  (gfR u (some t0) 6 0).bind fun v1 =>
  (chk u v1 7).bind fun b2 =>
  (fX7_reset b2 u).bind fun u3 =>
  (pfI u3 (some t0) 6 1 (0 : Int32)).bind fun u4 =>
  (pfI u4 (some t0) 6 2 (-1 : Int32)).bind fun u5 =>
  (pfI u5 (some t0) 6 6 (0 : Int32)).bind fun u6 =>
  (pfI u6 (some t0) 6 7 (-1 : Int32)).bind fun u7 =>
  (pfI u7 (some t0) 6 9 (0 : Int32)).bind fun u8 =>
  (pfI u8 (some t0) 6 10 (0 : Int32)).bind fun u9 =>
  (pfI u9 (some t0) 6 11 (0 : Int32)).bind fun u10 =>
  some u10
abbrev iX6_kindAt : MI := (yX6_kindAt, cX6_kindAt, 3, (some .int))
def jX6_kindAt_76 (p2 : Int32) (u : Mem) : Option (Int32) :=
  if p2 = (59 : Int32) then
    some (4 : Int32)
  else
    some (5 : Int32)
def jX6_kindAt_62 (p2 : Int32) (u : Mem) : Option (Int32) :=
  if p2 < (48 : Int32) then
    jX6_kindAt_76 p2 u
  else
    if (57 : Int32) < p2 then
      jX6_kindAt_76 p2 u
    else
      some (3 : Int32)
def fX6_kindAt (t0 : Nat) (p1 : Int32) (u : Mem) : Option (Int32) :=
  if p1 < 0 then
    some (0 : Int32)
  else
    (gfR u (some t0) 6 3).bind fun v2 =>
    (gfI u v2 8 1).bind fun v3 =>
    if p1 < v3 then
      if p1 < (500 : Int32) then
        (gfR u (some t0) 6 3).bind fun v6 =>
        (gfR u v6 8 0).bind fun v7 =>
        (alI u v7 21 p1).bind fun v8 =>
        if v8 = (32 : Int32) then
          some (1 : Int32)
        else
          if v8 = (10 : Int32) then
            some (1 : Int32)
          else
            if v8 < (97 : Int32) then
              jX6_kindAt_62 v8 u
            else
              if (122 : Int32) < v8 then
                jX6_kindAt_62 v8 u
              else
                some (2 : Int32)
      else
        some (0 : Int32)
    else
      some (0 : Int32)
abbrev iX6_readToken : MI := (yX6_readToken, cX6_readToken, 2, (Option.none : Option FieldType))
def bX6_readToken_0 (t0 : Nat) (u : Mem) : Option ((Mem) ⊕ (Mem)) :=
  (gfI u (some t0) 6 6).bind fun v1 =>
  (gfR u (some t0) 6 3).bind fun v2 =>
  (gfI u v2 8 1).bind fun v3 =>
  if v1 < v3 then
    (gfI u (some t0) 6 6).bind fun v5 =>
    (chk u (some t0) 6).bind fun b6 =>
    (fX6_kindAt t0 v5 u).bind fun v7 =>
    if v7 = (1 : Int32) then
      (gfI u (some t0) 6 6).bind fun v9 =>
      (pfI u (some t0) 6 6 (v9 + (1 : Int32))).bind fun u10 =>
      some (.inl u10)
    else
      some (.inr u)
  else
    some (.inr u)
def bX6_readToken_99 (t0 : Nat) (i1 : Int32) (u : Mem) : Option ((Mem) ⊕ (Mem)) :=
  if i1 = 0 then
    some (.inr u)
  else
    (gfI u (some t0) 6 6).bind fun v25 =>
    (gfR u (some t0) 6 3).bind fun v26 =>
    (gfI u v26 8 1).bind fun v27 =>
    if v25 < v27 then
      (gfI u (some t0) 6 6).bind fun v29 =>
      (chk u (some t0) 6).bind fun b30 =>
      (fX6_kindAt t0 v29 u).bind fun v31 =>
      (gfI u (some t0) 6 4).bind fun v32 =>
      if v31 = v32 then
        (gfI u (some t0) 6 6).bind fun v34 =>
        (pfI u (some t0) 6 6 (v34 + (1 : Int32))).bind fun u35 =>
        some (.inl u35)
      else
        some (.inr u)
    else
      some (.inr u)
def jX6_readToken_145 (t0 : Nat) (u : Mem) : Option (Mem) :=
  (gfI u (some t0) 6 4).bind fun v37 =>
  if v37 = (3 : Int32) then
    (gfI u (some t0) 6 6).bind fun v39 =>
    (gfI u (some t0) 6 5).bind fun v40 =>
    if (4 : Int32) < (v39 - v40) then
      (pfI u (some t0) 6 4 (5 : Int32)).bind fun u42 =>
      some u42
    else
      some u
  else
    some u
def jX6_readToken_39 (t0 : Nat) (u : Mem) : Option (Mem) :=
  (gfI u (some t0) 6 6).bind fun v12 =>
  (pfI u (some t0) 6 5 v12).bind fun u13 =>
  (gfI u13 (some t0) 6 5).bind fun v14 =>
  (chk u13 (some t0) 6).bind fun b15 =>
  (fX6_kindAt t0 v14 u13).bind fun v16 =>
  (pfI u13 (some t0) 6 4 v16).bind fun u17 =>
  (gfI u17 (some t0) 6 4).bind fun v18 =>
  if v18 = 0 then
    some u17
  else
    (gfI u17 (some t0) 6 6).bind fun v20 =>
    (pfI u17 (some t0) 6 6 (v20 + (1 : Int32))).bind fun u21 =>
    (gfI u21 (some t0) 6 4).bind fun v22 =>
    if v22 = (2 : Int32) then
      (lp (fun s : Mem => bX6_readToken_99 t0 (1 : Int32) s) FU u21).bind fun r36 =>
      jX6_readToken_145 t0 r36
    else
      (gfI u21 (some t0) 6 4).bind fun v43 =>
      if v43 = (3 : Int32) then
        (lp (fun s : Mem => bX6_readToken_99 t0 (1 : Int32) s) FU u21).bind fun r45 =>
        jX6_readToken_145 t0 r45
      else
        (lp (fun s : Mem => bX6_readToken_99 t0 (0 : Int32) s) FU u21).bind fun r46 =>
        jX6_readToken_145 t0 r46
def fX6_readToken (t0 : Nat) (u : Mem) : Option (Mem) :=
  (lp (fun s : Mem => bX6_readToken_0 t0 s) FU u).bind fun r11 =>
  jX6_readToken_39 t0 r11
abbrev iX6_isWord : MI := (yX6_isWord, cX6_isWord, 3, (some .boolean))
def bX6_isWord_28 (t0 : Nat) (i1 : Option Nat) (u : Mem) (s2 : Int32) : Option ((Int32) ⊕ ((Unit) ⊕ (Unit))) :=
  (fStrLen i1).bind fun v7 =>
  if s2 < v7 then
    (gfR u (some t0) 6 3).bind fun v9 =>
    (gfR u v9 8 0).bind fun v10 =>
    (gfI u (some t0) 6 5).bind fun v11 =>
    (alI u v10 21 (v11 + s2)).bind fun v12 =>
    (fStrAt i1 s2).bind fun v13 =>
    if v12 = v13 then
      nm (s2 + 1 : Int32) fun x15 =>
      some (.inl x15)
    else
      some (.inr (.inr ()))
  else
    some (.inr (.inl ()))
def fX6_isWord (t0 : Nat) (p1 : Option Nat) (u : Mem) : Option (Int32) :=
  (gfI u (some t0) 6 4).bind fun v1 =>
  if v1 = (2 : Int32) then
    (gfI u (some t0) 6 6).bind fun v3 =>
    (gfI u (some t0) 6 5).bind fun v4 =>
    (fStrLen p1).bind fun v5 =>
    if (v3 - v4) = v5 then
      (lp (fun s : Int32 => bX6_isWord_28 t0 p1 u s) FU (0 : Int32)).bind fun r16 =>
      sumE r16 (fun r17 =>
        some (1 : Int32)) (fun r18 =>
        some (0 : Int32))
    else
      some (0 : Int32)
  else
    some (0 : Int32)
abbrev iX6_lineOfWord : MI := (yX6_lineOfWord, cX6_lineOfWord, 1, (some .int))
def fX6_lineOfWord (t0 : Nat) (u : Mem) : Option (Int32) :=
  (chk u (some t0) 6).bind fun b1 =>
  (fX6_isWord t0 (some 1000000) u).bind fun v2 =>
  if v2 = 0 then
    (chk u (some t0) 6).bind fun b4 =>
    (fX6_isWord t0 (some 1000001) u).bind fun v5 =>
    if v5 = 0 then
      (chk u (some t0) 6).bind fun b7 =>
      (fX6_isWord t0 (some 1000002) u).bind fun v8 =>
      if v8 = 0 then
        (chk u (some t0) 6).bind fun b10 =>
        (fX6_isWord t0 (some 1000003) u).bind fun v11 =>
        if v11 = 0 then
          (chk u (some t0) 6).bind fun b13 =>
          (fX6_isWord t0 (some 1000004) u).bind fun v14 =>
          if v14 = 0 then
            (chk u (some t0) 6).bind fun b16 =>
            (fX6_isWord t0 (some 1000005) u).bind fun v17 =>
            if v17 = 0 then
              some (-1 : Int32)
            else
              some (5 : Int32)
          else
            some (4 : Int32)
        else
          some (3 : Int32)
      else
        some (2 : Int32)
    else
      some (1 : Int32)
  else
    some (0 : Int32)
abbrev iX6_setFault : MI := (yX6_setFault, cX6_setFault, 2, (Option.none : Option FieldType))
def fX6_setFault (t0 : Nat) (p1 : Int32) (u : Mem) : Option (Mem) :=
  (pfI u (some t0) 6 1 p1).bind fun u1 =>
  (gfI u1 (some t0) 6 5).bind fun v2 =>
  (pfI u1 (some t0) 6 2 v2).bind fun u3 =>
  (pfI u3 (some t0) 6 11 (1 : Int32)).bind fun u4 =>
  some u4
abbrev iX6_startLine : MI := (yX6_startLine, cX6_startLine, 2, (Option.none : Option FieldType))
def fX6_startLine (t0 : Nat) (u : Mem) : Option (Mem) :=
  (gfI u (some t0) 6 4).bind fun v1 =>
  if v1 = 0 then
    (pfI u (some t0) 6 11 (1 : Int32)).bind fun u3 =>
    some u3
  else
    (chk u (some t0) 6).bind fun b4 =>
    (fX6_lineOfWord t0 u).bind fun v5 =>
    if v5 = (-1 : Int32) then
      (chk u (some t0) 6).bind fun b7 =>
      (fX6_setFault t0 (1 : Int32) u).bind fun u8 =>
      some u8
    else
      (gfI u (some t0) 6 10).bind fun v9 =>
      if ((v9 >>> (v5 &&& 31)) &&& (1 : Int32)) = (1 : Int32) then
        (chk u (some t0) 6).bind fun b11 =>
        (fX6_setFault t0 (3 : Int32) u).bind fun u12 =>
        some u12
      else
        (gfI u (some t0) 6 10).bind fun v13 =>
        (pfI u (some t0) 6 10 (v13 ||| ((1 : Int32) <<< (v5 &&& 31)))).bind fun u14 =>
        (pfI u14 (some t0) 6 7 v5).bind fun u15 =>
        (pfI u15 (some t0) 6 8 (0 : Int32)).bind fun u16 =>
        some u16
abbrev iX6_tokensBehind : MI := (yX6_tokensBehind, cX6_tokensBehind, 1, (some .int))
def fX6_tokensBehind (p0 : Int32) (u : Mem) : Option (Int32) :=
  if p0 = 0 then
    some (11 : Int32)
  else if p0 = 1 then
      some (11 : Int32)
    else if p0 = 2 then
        some (1 : Int32)
      else if p0 = 3 then
          some (1 : Int32)
        else if p0 = 4 then
            some (2 : Int32)
          else 
            some (1 : Int32)
abbrev iX6_takeNumber : MI := (yX6_takeNumber, cX6_takeNumber, 5, (some .int))
def bX6_takeNumber_23 (t0 : Nat) (i1 : Int32) (i2 : Int32) (u : Mem) (s3 : Int32) (s4 : Int32) : Option ((Int32 × Int32) ⊕ (Int32)) :=
  (gfI u (some t0) 6 6).bind fun v4 =>
  if s4 < v4 then
    (gfR u (some t0) 6 3).bind fun v6 =>
    (gfR u v6 8 0).bind fun v7 =>
    (alI u v7 21 s4).bind fun v8 =>
    nm (((s3 * (10 : Int32)) + v8) - (48 : Int32) : Int32) fun x9 =>
    nm (s4 + 1 : Int32) fun x10 =>
    some (.inl (x9, x10))
  else
    some (.inr s3)
def jX6_takeNumber_67 (t0 : Nat) (p3 : Int32) (u : Mem) : Option (Int32 × Mem) :=
  (chk u (some t0) 6).bind fun b13 =>
  (fX6_setFault t0 (2 : Int32) u).bind fun u14 =>
  some (p3, u14)
def fX6_takeNumber (t0 : Nat) (p1 : Int32) (p2 : Int32) (u : Mem) : Option (Int32 × Mem) :=
  (gfI u (some t0) 6 4).bind fun v1 =>
  if v1 = (3 : Int32) then
    (gfI u (some t0) 6 5).bind fun v3 =>
    (lp (fun s : Int32 × Int32 => bX6_takeNumber_23 t0 p1 p2 u s.1 s.2) FU ((0 : Int32), v3)).bind fun r11 =>
    if r11 < p1 then
      jX6_takeNumber_67 t0 r11 u
    else
      if p2 < r11 then
        jX6_takeNumber_67 t0 r11 u
      else
        some (r11, u)
  else
    (chk u (some t0) 6).bind fun b16 =>
    (fX6_setFault t0 (1 : Int32) u).bind fun u17 =>
    some (p1, u17)
abbrev iX6_takeChoice : MI := (yX6_takeChoice, cX6_takeChoice, 3, (some .int))
def fX6_takeChoice (t0 : Nat) (p1 : Option Nat) (p2 : Option Nat) (u : Mem) : Option (Int32 × Mem) :=
  (chk u (some t0) 6).bind fun b1 =>
  (fX6_isWord t0 p2 u).bind fun v2 =>
  if v2 = 0 then
    (chk u (some t0) 6).bind fun b4 =>
    (fX6_isWord t0 p1 u).bind fun v5 =>
    if v5 = 0 then
      (chk u (some t0) 6).bind fun b7 =>
      (fX6_setFault t0 (1 : Int32) u).bind fun u8 =>
      some ((0 : Int32), u8)
    else
      some ((0 : Int32), u)
  else
    some ((1 : Int32), u)
abbrev iX6_takeOfCopy : MI := (yX6_takeOfCopy, cX6_takeOfCopy, 1, (Option.none : Option FieldType))
def fX6_takeOfCopy (t0 : Nat) (u : Mem) : Option (Mem) :=
  (gfI u (some t0) 6 8).bind fun v1 =>
  if v1 = 0 then
    (gfR u (some t0) 6 0).bind fun v3 =>
    (chk u (some t0) 6).bind fun b4 =>
    bnd2 (fX6_takeNumber t0 (1 : Int32) (30 : Int32) u) fun v5 u6 =>
    (pfI u6 v3 7 4 v5).bind fun u7 =>
    some u7
  else
    (gfR u (some t0) 6 0).bind fun v8 =>
    (chk u (some t0) 6).bind fun b9 =>
    bnd2 (fX6_takeNumber t0 (1 : Int32) (99 : Int32) u) fun v10 u11 =>
    (pfI u11 v8 7 5 v10).bind fun u12 =>
    some u12
abbrev iX6_takeArgument : MI := (yX6_takeArgument, cX6_takeArgument, 1, (Option.none : Option FieldType))
def fX6_takeArgument (t0 : Nat) (u : Mem) : Option (Mem) :=
  (gfI u (some t0) 6 7).bind fun v1 =>
  if v1 = 0 then
    (gfR u (some t0) 6 0).bind fun v3 =>
    (gfR u v3 7 0).bind fun v4 =>
    (gfI u (some t0) 6 8).bind fun v5 =>
    (chk u (some t0) 6).bind fun b6 =>
    bnd2 (fX6_takeNumber t0 (0 : Int32) (1000 : Int32) u) fun v7 u8 =>
    (asI u8 v4 20 v5 v7).bind fun u9 =>
    some u9
  else if v1 = 1 then
      (gfR u (some t0) 6 0).bind fun v11 =>
      (gfR u v11 7 1).bind fun v12 =>
      (gfI u (some t0) 6 8).bind fun v13 =>
      (chk u (some t0) 6).bind fun b14 =>
      bnd2 (fX6_takeNumber t0 (0 : Int32) (1000 : Int32) u) fun v15 u16 =>
      (asI u16 v12 20 v13 v15).bind fun u17 =>
      some u17
    else if v1 = 2 then
        (gfR u (some t0) 6 0).bind fun v19 =>
        (chk u (some t0) 6).bind fun b20 =>
        bnd2 (fX6_takeChoice t0 (some 1000006) (some 1000007) u) fun v21 u22 =>
        (pfI u22 v19 7 2 v21).bind fun u23 =>
        some u23
      else if v1 = 3 then
          (gfR u (some t0) 6 0).bind fun v25 =>
          (chk u (some t0) 6).bind fun b26 =>
          bnd2 (fX6_takeChoice t0 (some 1000008) (some 1000009) u) fun v27 u28 =>
          (pfI u28 v25 7 3 v27).bind fun u29 =>
          some u29
        else if v1 = 4 then
            (chk u (some t0) 6).bind fun b31 =>
            (fX6_takeOfCopy t0 u).bind fun u32 =>
            some u32
          else 
            (gfR u (some t0) 6 0).bind fun v33 =>
            (chk u (some t0) 6).bind fun b34 =>
            bnd2 (fX6_takeNumber t0 (1 : Int32) (99 : Int32) u) fun v35 u36 =>
            (pfI u36 v33 7 6 v35).bind fun u37 =>
            some u37
abbrev iX6_takeToken : MI := (yX6_takeToken, cX6_takeToken, 1, (Option.none : Option FieldType))
def fX6_takeToken (t0 : Nat) (u : Mem) : Option (Mem) :=
  (gfI u (some t0) 6 7).bind fun v1 =>
  if v1 = (-1 : Int32) then
    (chk u (some t0) 6).bind fun b3 =>
    (fX6_startLine t0 u).bind fun u4 =>
    some u4
  else
    (gfI u (some t0) 6 8).bind fun v5 =>
    (gfI u (some t0) 6 7).bind fun v6 =>
    (fX6_tokensBehind v6 u).bind fun v7 =>
    if v5 < v7 then
      (chk u (some t0) 6).bind fun b9 =>
      (fX6_takeArgument t0 u).bind fun u10 =>
      (gfI u10 (some t0) 6 8).bind fun v11 =>
      (pfI u10 (some t0) 6 8 (v11 + (1 : Int32))).bind fun u12 =>
      some u12
    else
      (gfI u (some t0) 6 4).bind fun v13 =>
      if v13 = (4 : Int32) then
        (gfI u (some t0) 6 9).bind fun v15 =>
        (pfI u (some t0) 6 9 (v15 + (1 : Int32))).bind fun u16 =>
        (pfI u16 (some t0) 6 7 (-1 : Int32)).bind fun u17 =>
        some u17
      else
        (chk u (some t0) 6).bind fun b18 =>
        (fX6_setFault t0 (1 : Int32) u).bind fun u19 =>
        some u19
abbrev iX6_readText : MI := (yX6_readText, cX6_readText, 2, (some .int))
def bX6_readText_6 (t0 : Nat) (s1 : Int32) (u : Mem) : Option ((Int32 × Mem) ⊕ (Mem)) :=
  if (500 : Int32) < s1 then
    some (.inr u)
  else
    (gfI u (some t0) 6 11).bind fun v4 =>
    if v4 = 0 then
      (chk u (some t0) 6).bind fun b6 =>
      (fX6_readToken t0 u).bind fun u7 =>
      (chk u7 (some t0) 6).bind fun b8 =>
      (fX6_takeToken t0 u7).bind fun u9 =>
      nm (s1 + 1 : Int32) fun x10 =>
      some (.inl (x10, u9))
    else
      some (.inr u)
def jX6_readText_34 (t0 : Nat) (u : Mem) : Option (Int32 × Mem) :=
  (gfI u (some t0) 6 1).bind fun v12 =>
  if v12 = 0 then
    (gfI u (some t0) 6 9).bind fun v14 =>
    some (v14, u)
  else
    some ((-1 : Int32), u)
def fX6_readText (t0 : Nat) (u : Mem) : Option (Int32 × Mem) :=
  (chk u (some t0) 6).bind fun b1 =>
  (fX6_begin t0 u).bind fun u2 =>
  (lp (fun s : Int32 × Mem => bX6_readText_6 t0 s.1 s.2) FU ((0 : Int32), u2)).bind fun r11 =>
  jX6_readText_34 t0 r11
abbrev iX7_copyFrom : MI := (yX7_copyFrom, cX7_copyFrom, 2, (Option.none : Option FieldType))
def fX7_copyFrom (t0 : Nat) (p1 : Option Nat) (u : Mem) : Option (Mem) :=
  (gfR u p1 7 0).bind fun v1 =>
  (gfR u (some t0) 7 0).bind fun v2 =>
  (fCopy u v1 (0 : Int32) v2 (0 : Int32) (11 : Int32)).bind fun u3 =>
  (gfR u3 p1 7 1).bind fun v4 =>
  (gfR u3 (some t0) 7 1).bind fun v5 =>
  (fCopy u3 v4 (0 : Int32) v5 (0 : Int32) (11 : Int32)).bind fun u6 =>
  (gfI u6 p1 7 2).bind fun v7 =>
  (pfI u6 (some t0) 7 2 v7).bind fun u8 =>
  (gfI u8 p1 7 3).bind fun v9 =>
  (pfI u8 (some t0) 7 3 v9).bind fun u10 =>
  (gfI u10 p1 7 4).bind fun v11 =>
  (pfI u10 (some t0) 7 4 v11).bind fun u12 =>
  (gfI u12 p1 7 5).bind fun v13 =>
  (pfI u12 (some t0) 7 5 v13).bind fun u14 =>
  (gfI u14 p1 7 6).bind fun v15 =>
  (pfI u14 (some t0) 7 6 v15).bind fun u16 =>
  some u16
abbrev iX8_init : MI := (yX8_init, cX8_init, 1, (Option.none : Option FieldType))
def fX8_init (t0 : Nat) (u : Mem) : Option (Mem) :=
  bnd2 (nwc u 21 500) fun a1 u2 =>
  (pfR u2 (some t0) 8 0 (some a1)).bind fun u3 =>
  some u3
abbrev iX8_append : MI := (yX8_append, cX8_append, 3, (Option.none : Option FieldType))
def bX8_append_3 (t0 : Nat) (i1 : Int32) (s2 : Int32) (u : Mem) : Option ((Int32 × Mem) ⊕ (Mem)) :=
  if s2 < 0 then
    some (.inr u)
  else
    (gfI u (some t0) 8 1).bind fun v2 =>
    if v2 < (500 : Int32) then
      (gfR u (some t0) 8 0).bind fun v4 =>
      (gfI u (some t0) 8 1).bind fun v5 =>
      (asI u v4 21 v5 ((Int32.toInt8 ((Int32.toInt8 (i1 >>> (s2 &&& 31))).toInt32)).toInt32)).bind fun u6 =>
      (gfI u6 (some t0) 8 1).bind fun v7 =>
      (pfI u6 (some t0) 8 1 (v7 + (1 : Int32))).bind fun u8 =>
      nm (s2 + (-8) : Int32) fun x9 =>
      some (.inl (x9, u8))
    else
      some (.inr u)
def fX8_append (t0 : Nat) (p1 : Int32) (u : Mem) : Option (Mem) :=
  (lp (fun s : Int32 × Mem => bX8_append_3 t0 p1 s.1 s.2) FU ((24 : Int32), u)).bind fun r10 =>
  some r10
abbrev iX9_init : MI := (yX9_init, cX9_init, 2, (Option.none : Option FieldType))
def fX9_init (t0 : Nat) (p1 : Option Nat) (u : Mem) : Option (Mem) :=
  bnd2 (nwc u 20 30) fun a1 u2 =>
  (pfR u2 (some t0) 9 0 (some a1)).bind fun u3 =>
  bnd2 (nwc u3 20 30) fun a4 u5 =>
  (pfR u5 (some t0) 9 1 (some a4)).bind fun u6 =>
  bnd2 (nwc u6 20 30) fun a7 u8 =>
  (pfR u8 (some t0) 9 2 (some a7)).bind fun u9 =>
  (pfR u9 (some t0) 9 4 p1).bind fun u10 =>
  some u10
abbrev iX9_append : MI := (yX9_append, cX9_append, 5, (some .int))
def fX9_append (t0 : Nat) (p1 : Int32) (p2 : Int32) (p3 : Int32) (u : Mem) : Option (Int32 × Mem) :=
  (gfI u (some t0) 9 3).bind fun v1 =>
  (gfR u (some t0) 9 0).bind fun v2 =>
  (asI u v2 20 v1 p1).bind fun u3 =>
  (gfR u3 (some t0) 9 1).bind fun v4 =>
  (asI u3 v4 20 v1 p2).bind fun u5 =>
  (gfR u5 (some t0) 9 2).bind fun v6 =>
  (asI u5 v6 20 v1 p3).bind fun u7 =>
  (gfI u7 (some t0) 9 3).bind fun v8 =>
  (pfI u7 (some t0) 9 3 (v8 + (1 : Int32))).bind fun u9 =>
  some (v1, u9)
abbrev iX9_isBroken : MI := (yX9_isBroken, cX9_isBroken, 3, (some .boolean))
def fX9_isBroken (p0 : Int32) (p1 : Int32) (p2 : Int32) (u : Mem) : Option (Int32) :=
  if p0 = 0 then
    if p2 < p1 then
      some (1 : Int32)
    else
      some (0 : Int32)
  else if p0 = 1 then
      if (10 : Int32) < (p1 + p2) then
        some (1 : Int32)
      else
        some (0 : Int32)
    else 
      if (p1 + p2) < (10 : Int32) then
        some (1 : Int32)
      else
        some (0 : Int32)
abbrev iX9_brokenBits : MI := (yX9_brokenBits, cX9_brokenBits, 7, (some .int))
def bX9_brokenBits_5 (t0 : Nat) (i1 : Int32) (i2 : Int32) (u : Mem) (s3 : Int32) (s4 : Int32) : Option ((Int32 × Int32) ⊕ (Int32)) :=
  (gfI u (some t0) 9 3).bind fun v1 =>
  if s4 < v1 then
    (gfR u (some t0) 9 4).bind fun v3 =>
    (gfR u (some t0) 9 0).bind fun v4 =>
    (alI u v4 20 s4).bind fun v5 =>
    (chk u v3 0).bind fun b6 =>
    (fX0_heldTenth b6 i1 v5 i2 u).bind fun v7 =>
    (gfR u (some t0) 9 4).bind fun v8 =>
    (gfR u (some t0) 9 1).bind fun v9 =>
    (alI u v9 20 s4).bind fun v10 =>
    (chk u v8 0).bind fun b11 =>
    (fX0_heldTenth b11 i1 v10 i2 u).bind fun v12 =>
    if v7 = (-1 : Int32) then
      nm (s4 + 1 : Int32) fun x14 =>
      some (.inl (s3, x14))
    else
      if v12 = (-1 : Int32) then
        nm (s4 + 1 : Int32) fun x16 =>
        some (.inl (s3, x16))
      else
        (gfR u (some t0) 9 2).bind fun v17 =>
        (alI u v17 20 s4).bind fun v18 =>
        (fX9_isBroken v18 v7 v12 u).bind fun v19 =>
        if v19 = 0 then
          nm (s4 + 1 : Int32) fun x21 =>
          some (.inl (s3, x21))
        else
          nm (s3 ||| ((1 : Int32) <<< (s4 &&& 31)) : Int32) fun x22 =>
          nm (s4 + 1 : Int32) fun x23 =>
          some (.inl (x22, x23))
  else
    some (.inr s3)
def fX9_brokenBits (t0 : Nat) (p1 : Int32) (p2 : Int32) (u : Mem) : Option (Int32) :=
  (lp (fun s : Int32 × Int32 => bX9_brokenBits_5 t0 p1 p2 u s.1 s.2) FU ((0 : Int32), (0 : Int32))).bind fun r24 =>
  some r24
abbrev iX10_init : MI := (yX10_init, cX10_init, 1, (Option.none : Option FieldType))
def fX10_init (t0 : Nat) (u : Mem) : Option (Mem) :=
  bnd2 (nwc u 8 2) fun a1 u2 =>
  (fX8_init a1 u2).bind fun u3 =>
  (pfR u3 (some t0) 10 0 (some a1)).bind fun u4 =>
  bnd2 (nwc u4 6 12) fun a5 u6 =>
  (gfR u6 (some t0) 10 0).bind fun v7 =>
  (fX6_init a5 v7 u6).bind fun u8 =>
  (pfR u8 (some t0) 10 1 (some a5)).bind fun u9 =>
  bnd2 (nwc u9 7 7) fun a10 u11 =>
  (fX7_init a10 u11).bind fun u12 =>
  (pfR u12 (some t0) 10 2 (some a10)).bind fun u13 =>
  bnd2 (nwc u13 0 6) fun a14 u15 =>
  (fX0_init a14 u15).bind fun u16 =>
  (pfR u16 (some t0) 10 3 (some a14)).bind fun u17 =>
  bnd2 (nwc u17 1 7) fun a18 u19 =>
  (gfR u19 (some t0) 10 3).bind fun v20 =>
  (gfR u19 (some t0) 10 2).bind fun v21 =>
  (fX1_init a18 v20 v21 u19).bind fun u22 =>
  (pfR u22 (some t0) 10 4 (some a18)).bind fun u23 =>
  bnd2 (nwc u23 2 11) fun a24 u25 =>
  (gfR u25 (some t0) 10 3).bind fun v26 =>
  (gfR u25 (some t0) 10 2).bind fun v27 =>
  (gfR u25 (some t0) 10 4).bind fun v28 =>
  (fX2_init a24 v26 v27 v28 u25).bind fun u29 =>
  (pfR u29 (some t0) 10 5 (some a24)).bind fun u30 =>
  bnd2 (nwc u30 9 5) fun a31 u32 =>
  (gfR u32 (some t0) 10 3).bind fun v33 =>
  (fX9_init a31 v33 u32).bind fun u34 =>
  (pfR u34 (some t0) 10 6 (some a31)).bind fun u35 =>
  bnd2 (nwc u35 4 9) fun a36 u37 =>
  (gfR u37 (some t0) 10 3).bind fun v38 =>
  (gfR u37 (some t0) 10 6).bind fun v39 =>
  (fX4_init a36 v38 v39 u37).bind fun u40 =>
  (pfR u40 (some t0) 10 7 (some a36)).bind fun u41 =>
  some u41
theorem btX4_leastChange_7 {l : Launch} {G : Gt} {d : Nat} {t0 : Nat} {s1 : Int32} {u : Mem} {y : (Int32 × Mem) ⊕ (Mem)} {o : Outcome} {u' : Mem} (h : bX4_leastChange_7 t0 s1 u = some y) (k0 : ∀ s' : Int32 × Mem, y = .inl s' → Rn l G iX4_leastChange (d + 9) 7 [(0, rv (some t0)), (1, .int s'.1)] [] s'.2 o u') (k1 : ∀ r : Mem, y = .inr (r) → Rn l G iX4_leastChange (d + 9) 41 [(0, rv (some t0))] [] r o u') : Rn l G iX4_leastChange (d + 9) 7 [(0, rv (some t0)), (1, .int s1)] [] u o u' := by
  unfold bX4_leastChange_7 at h
  refine rn_iload_n (pc := 7) 1 dX4_leastChange_7 rfl rfl ?_
  refine rn_aload_n (pc := 8) 0 dX4_leastChange_8 rfl rfl ?_
  obtain ⟨v2, hv2, h1⟩ := bnd_some h
  refine rn_getI (pc := 9) (k := 7) okX4 (by decide) tw_406 rfl dX4_leastChange_9 hv2 ?_
  rcases if_elim h1 with ⟨c3, h2⟩ | ⟨c3, h2⟩
  · refine rn_ige_f (pc := 12) 41 dX4_leastChange_12 (by decide) c3 ?_
    refine rn_aload_n (pc := 15) 0 dX4_leastChange_15 rfl rfl ?_
    refine rn_dup (pc := 16) dX4_leastChange_16 (rv_cat _) ?_
    obtain ⟨v4, hv4, h3⟩ := bnd_some h2
    refine rn_getI (pc := 17) (k := 8) okX4 (by decide) tw_407 rfl dX4_leastChange_17 hv4 ?_
    refine rn_aload_n (pc := 20) 0 dX4_leastChange_20 rfl rfl ?_
    obtain ⟨v5, hv5, h4⟩ := bnd_some h3
    refine rn_getR (pc := 21) (k := 4) okX4 (by decide) tw_403 rfl dX4_leastChange_21 hv5 ?_
    refine rn_iload_n (pc := 24) 1 dX4_leastChange_24 rfl rfl ?_
    obtain ⟨v6, hv6, h5⟩ := bnd_some h4
    refine rn_iald (pc := 25) dX4_leastChange_25 hv6 ?_
    refine rn_iconst (pc := 26) (v := 5) dX4_leastChange_26 (by decide) ?_
    refine rn_isub (pc := 27) dX4_leastChange_27 ?_
    refine rn_mabs (pc := 28) (rest := [.int v4, rv (some t0)]) (by omega) tw_897 (Nat.le_of_ble_eq_true rfl) dX4_leastChange_28 ?_
    refine rn_iadd (pc := 31) dX4_leastChange_31 ?_
    obtain ⟨u7, hu7, h6⟩ := bnd_some h5
    refine rn_putI (pc := 32) (k := 8) okX4 (by decide) tw_407 (Or.inl rfl) (Or.inl rfl) dX4_leastChange_32 hu7 ?_
    obtain ⟨x8, ex8, h7⟩ := nm_elim h6
    refine rn_iinc (pc := 35) (v := x8) (lv' := [(1, .int x8), (0, rv (some t0))]) 1 dX4_leastChange_35 rfl (by rw [ex8]; rfl) (by decide) rfl ?_
    refine rn_goto (pc := 38) (tgt := 7) dX4_leastChange_38 (by decide) ?_
    cases h7
    exact rn_sub [1, 0] rfl (k0 _ rfl)
  · refine rn_ige_t (pc := 12) (tgt := 41) dX4_leastChange_12 (by decide) c3 ?_
    cases h2
    exact rn_sub [0] rfl (k1 _ rfl)
theorem lX4_leastChange_7 {l : Launch} {G : Gt} {d : Nat} {t0 : Nat} {N : Nat} {s0 : Int32 × Mem} {r : Mem} {o : Outcome} {u' : Mem} (h : lp (fun s : Int32 × Mem => bX4_leastChange_7 t0 s.1 s.2) N s0 = some r) (k1 : Rn l G iX4_leastChange (d + 9) 41 [(0, rv (some t0))] [] r o u') : Rn l G iX4_leastChange (d + 9) 7 [(0, rv (some t0)), (1, .int s0.1)] [] s0.2 o u' :=
  lp_run (P := fun s : Int32 × Mem => Rn l G iX4_leastChange (d + 9) 7 [(0, rv (some t0)), (1, .int s.1)] [] s.2 o u') (E := fun r => Rn l G iX4_leastChange (d + 9) 41 [(0, rv (some t0))] [] r o u') (fun s y hy k0 kE => btX4_leastChange_7 hy (fun s' e => k0 s' e) (fun r e => kE r e)) N s0 r h k1
theorem btX4_leastChange_57 {l : Launch} {G : Gt} {d : Nat} {t0 : Nat} {s1 : Int32} {u : Mem} {y : (Int32 × Mem) ⊕ (Mem)} {o : Outcome} {u' : Mem} (h : bX4_leastChange_57 t0 s1 u = some y) (k0 : ∀ s' : Int32 × Mem, y = .inl s' → Rn l G iX4_leastChange (d + 9) 57 [(0, rv (some t0)), (1, .int s'.1)] [] s'.2 o u') (k1 : ∀ r : Mem, y = .inr (r) → Rn l G iX4_leastChange (d + 9) 88 [(0, rv (some t0))] [] r o u') : Rn l G iX4_leastChange (d + 9) 57 [(0, rv (some t0)), (1, .int s1)] [] u o u' := by
  unfold bX4_leastChange_57 at h
  refine rn_iload_n (pc := 57) 1 dX4_leastChange_57 rfl rfl ?_
  refine rn_aload_n (pc := 58) 0 dX4_leastChange_58 rfl rfl ?_
  obtain ⟨v14, hv14, h1⟩ := bnd_some h
  refine rn_getI (pc := 59) (k := 7) okX4 (by decide) tw_406 rfl dX4_leastChange_59 hv14 ?_
  rcases if_elim h1 with ⟨c15, h2⟩ | ⟨c15, h2⟩
  · refine rn_ige_f (pc := 62) 88 dX4_leastChange_62 (by decide) c15 ?_
    refine rn_aload_n (pc := 65) 0 dX4_leastChange_65 rfl rfl ?_
    obtain ⟨v16, hv16, h3⟩ := bnd_some h2
    refine rn_getR (pc := 66) (k := 0) okX4 (by decide) tw_398 rfl dX4_leastChange_66 hv16 ?_
    refine rn_aload_n (pc := 69) 0 dX4_leastChange_69 rfl rfl ?_
    obtain ⟨v17, hv17, h4⟩ := bnd_some h3
    refine rn_getR (pc := 70) (k := 3) okX4 (by decide) tw_402 rfl dX4_leastChange_70 hv17 ?_
    refine rn_iload_n (pc := 73) 1 dX4_leastChange_73 rfl rfl ?_
    obtain ⟨v18, hv18, h5⟩ := bnd_some h4
    refine rn_iald (pc := 74) dX4_leastChange_74 hv18 ?_
    refine rn_aload_n (pc := 75) 0 dX4_leastChange_75 rfl rfl ?_
    obtain ⟨v19, hv19, h6⟩ := bnd_some h5
    refine rn_getR (pc := 76) (k := 6) okX4 (by decide) tw_405 rfl dX4_leastChange_76 hv19 ?_
    refine rn_iload_n (pc := 79) 1 dX4_leastChange_79 rfl rfl ?_
    obtain ⟨v20, hv20, h7⟩ := bnd_some h6
    refine rn_iald (pc := 80) dX4_leastChange_80 hv20 ?_
    obtain ⟨u21, hu21, h8⟩ := bnd_some h7
    refine rn_iast (pc := 81) dX4_leastChange_81 hu21 ?_
    obtain ⟨x22, ex22, h9⟩ := nm_elim h8
    refine rn_iinc (pc := 82) (v := x22) (lv' := [(1, .int x22), (0, rv (some t0))]) 1 dX4_leastChange_82 rfl (by rw [ex22]; rfl) (by decide) rfl ?_
    refine rn_goto (pc := 85) (tgt := 57) dX4_leastChange_85 (by decide) ?_
    cases h9
    exact rn_sub [1, 0] rfl (k0 _ rfl)
  · refine rn_ige_t (pc := 62) (tgt := 88) dX4_leastChange_62 (by decide) c15 ?_
    cases h2
    exact rn_sub [0] rfl (k1 _ rfl)
theorem lX4_leastChange_57 {l : Launch} {G : Gt} {d : Nat} {t0 : Nat} {N : Nat} {s0 : Int32 × Mem} {r : Mem} {o : Outcome} {u' : Mem} (h : lp (fun s : Int32 × Mem => bX4_leastChange_57 t0 s.1 s.2) N s0 = some r) (k1 : Rn l G iX4_leastChange (d + 9) 88 [(0, rv (some t0))] [] r o u') : Rn l G iX4_leastChange (d + 9) 57 [(0, rv (some t0)), (1, .int s0.1)] [] s0.2 o u' :=
  lp_run (P := fun s : Int32 × Mem => Rn l G iX4_leastChange (d + 9) 57 [(0, rv (some t0)), (1, .int s.1)] [] s.2 o u') (E := fun r => Rn l G iX4_leastChange (d + 9) 88 [(0, rv (some t0))] [] r o u') (fun s y hy k0 kE => btX4_leastChange_57 hy (fun s' e => k0 s' e) (fun r e => kE r e)) N s0 r h k1
theorem tX4_leastChange {l : Launch} {G : Gt} {d : Nat} {t0 : Nat} {u : Mem} {y : Int32 × Mem} (h : fX4_leastChange t0 u = some y) : Rn l G iX4_leastChange (d + 9) 0 [(0, rv (some t0))] [] u (.returned (some (.int y.1))) y.2 := by
  unfold fX4_leastChange at h
  refine rn_aload_n (pc := 0) 0 dX4_leastChange_0 rfl rfl ?_
  refine rn_iconst (pc := 1) (v := 1) dX4_leastChange_1 (by decide) ?_
  obtain ⟨u1, hu1, h1⟩ := bnd_some h
  refine rn_putI (pc := 2) (k := 8) okX4 (by decide) tw_407 (Or.inl rfl) (Or.inl rfl) dX4_leastChange_2 hu1 ?_
  refine rn_iconst (pc := 5) (v := 0) dX4_leastChange_5 (by decide) ?_
  refine rn_istore_n (pc := 6) (lv' := [(1, .int (0 : Int32)), (0, rv (some t0))]) dX4_leastChange_6 rfl (by decide) rfl ?_
  obtain ⟨r9, hr9, h2⟩ := bnd_some h1
  refine rn_sub [1, 0] rfl (lX4_leastChange_7 hr9 ?_)
  refine rn_aload_n (pc := 41) 0 dX4_leastChange_41 rfl rfl ?_
  refine rn_iconst (pc := 42) (v := 0) dX4_leastChange_42 (by decide) ?_
  refine rn_iconst (pc := 43) (v := 0) dX4_leastChange_43 (by decide) ?_
  obtain ⟨b10, hb10, h3⟩ := bnd_some h2
  obtain ⟨qb10, kb10⟩ := chk_elim hb10
  cases qb10
  obtain ⟨u11, hu11, h4⟩ := bnd_some h3
  refine rn_callV (pc := 44) (n := 2) (As := [.int (0 : Int32), .int (0 : Int32)]) (rest := []) (eX4_tryTenths 6 _ _ _ _ _ hu11) (by omega) okX4 kb10 tw_902 tw_77 tw_900 tw_901 tw_26 (by decide +kernel) rfl (Nat.le_of_ble_eq_true rfl) dX4_leastChange_44 rfl ?_
  refine rn_aload_n (pc := 47) 0 dX4_leastChange_47 rfl rfl ?_
  obtain ⟨v12, hv12, h5⟩ := bnd_some h4
  refine rn_getR (pc := 48) (k := 0) okX4 (by decide) tw_398 rfl dX4_leastChange_48 hv12 ?_
  refine rn_iconst (pc := 51) (v := -1) dX4_leastChange_51 (by decide) ?_
  obtain ⟨u13, hu13, h6⟩ := bnd_some h5
  refine rn_callS (pc := 52) (n := 2) (As := [rv v12, .int (-1 : Int32)]) (rest := []) (eJ7_fill_53178 (d := d + 8) hu13) (by omega) tw_397 tw_78 tw_395 tw_396 (by decide +kernel) rfl (Nat.le_of_ble_eq_true rfl) dX4_leastChange_52 rfl ?_
  refine rn_iconst (pc := 55) (v := 0) dX4_leastChange_55 (by decide) ?_
  refine rn_istore_n (pc := 56) (lv' := [(1, .int (0 : Int32)), (0, rv (some t0))]) dX4_leastChange_56 rfl (by decide) rfl ?_
  obtain ⟨r23, hr23, h7⟩ := bnd_some h6
  refine rn_sub [1, 0] rfl (lX4_leastChange_57 hr23 ?_)
  refine rn_aload_n (pc := 88) 0 dX4_leastChange_88 rfl rfl ?_
  obtain ⟨v24, hv24, h8⟩ := bnd_some h7
  refine rn_getI (pc := 89) (k := 8) okX4 (by decide) tw_407 rfl dX4_leastChange_89 hv24 ?_
  cases h8
  exact rn_iret (pc := 92) rfl dX4_leastChange_92
theorem eX4_leastChange {l : Launch} {G : Gt} {d : Nat} {t0 : Nat} {u : Mem} {y : Int32 × Mem} (h : fX4_leastChange t0 u = some y) : Ex l G iX4_leastChange (d + 9) [rv (some t0)] u (.returned (some (.int y.1))) y.2 := Ex.of (by decide +kernel) (by decide) (Nat.le_of_ble_eq_true rfl) rfl (tX4_leastChange h)
theorem btX7_reset_2 {l : Launch} {G : Gt} {d : Nat} {t0 : Nat} {s1 : Int32} {u : Mem} {y : (Int32 × Mem) ⊕ (Mem)} {o : Outcome} {u' : Mem} (h : bX7_reset_2 t0 s1 u = some y) (k0 : ∀ s' : Int32 × Mem, y = .inl s' → Rn l G iX7_reset d 2 [(0, rv (some t0)), (1, .int s'.1)] [] s'.2 o u') (k1 : ∀ r : Mem, y = .inr (r) → Rn l G iX7_reset d 38 [(0, rv (some t0))] [] r o u') : Rn l G iX7_reset d 2 [(0, rv (some t0)), (1, .int s1)] [] u o u' := by
  unfold bX7_reset_2 at h
  refine rn_iload_n (pc := 2) 1 dX7_reset_2 rfl rfl ?_
  refine rn_bipush (pc := 3) (v := 11) dX7_reset_3 (by decide) ?_
  rcases if_elim h with ⟨c1, h1⟩ | ⟨c1, h1⟩
  · refine rn_ige_f (pc := 5) 38 dX7_reset_5 (by decide) c1 ?_
    refine rn_aload_n (pc := 8) 0 dX7_reset_8 rfl rfl ?_
    obtain ⟨v2, hv2, h2⟩ := bnd_some h1
    refine rn_getR (pc := 9) (k := 0) okX7 (by decide) tw_131 rfl dX7_reset_9 hv2 ?_
    refine rn_iload_n (pc := 12) 1 dX7_reset_12 rfl rfl ?_
    refine rn_bipush (pc := 13) (v := 10) dX7_reset_13 (by decide) ?_
    refine rn_iload_n (pc := 15) 1 dX7_reset_15 rfl rfl ?_
    refine rn_isub (pc := 16) dX7_reset_16 ?_
    refine rn_bipush (pc := 17) (v := 10) dX7_reset_17 (by decide) ?_
    refine rn_iload_n (pc := 19) 1 dX7_reset_19 rfl rfl ?_
    refine rn_isub (pc := 20) dX7_reset_20 ?_
    refine rn_imul (pc := 21) dX7_reset_21 ?_
    obtain ⟨u3, hu3, h3⟩ := bnd_some h2
    refine rn_iast (pc := 22) dX7_reset_22 hu3 ?_
    refine rn_aload_n (pc := 23) 0 dX7_reset_23 rfl rfl ?_
    obtain ⟨v4, hv4, h4⟩ := bnd_some h3
    refine rn_getR (pc := 24) (k := 1) okX7 (by decide) tw_135 rfl dX7_reset_24 hv4 ?_
    refine rn_iload_n (pc := 27) 1 dX7_reset_27 rfl rfl ?_
    refine rn_iload_n (pc := 28) 1 dX7_reset_28 rfl rfl ?_
    refine rn_iload_n (pc := 29) 1 dX7_reset_29 rfl rfl ?_
    refine rn_imul (pc := 30) dX7_reset_30 ?_
    obtain ⟨u5, hu5, h5⟩ := bnd_some h4
    refine rn_iast (pc := 31) dX7_reset_31 hu5 ?_
    obtain ⟨x6, ex6, h6⟩ := nm_elim h5
    refine rn_iinc (pc := 32) (v := x6) (lv' := [(1, .int x6), (0, rv (some t0))]) 1 dX7_reset_32 rfl (by rw [ex6]; rfl) (by decide) rfl ?_
    refine rn_goto (pc := 35) (tgt := 2) dX7_reset_35 (by decide) ?_
    cases h6
    exact rn_sub [1, 0] rfl (k0 _ rfl)
  · refine rn_ige_t (pc := 5) (tgt := 38) dX7_reset_5 (by decide) c1 ?_
    cases h1
    exact rn_sub [0] rfl (k1 _ rfl)
theorem lX7_reset_2 {l : Launch} {G : Gt} {d : Nat} {t0 : Nat} {N : Nat} {s0 : Int32 × Mem} {r : Mem} {o : Outcome} {u' : Mem} (h : lp (fun s : Int32 × Mem => bX7_reset_2 t0 s.1 s.2) N s0 = some r) (k1 : Rn l G iX7_reset d 38 [(0, rv (some t0))] [] r o u') : Rn l G iX7_reset d 2 [(0, rv (some t0)), (1, .int s0.1)] [] s0.2 o u' :=
  lp_run (P := fun s : Int32 × Mem => Rn l G iX7_reset d 2 [(0, rv (some t0)), (1, .int s.1)] [] s.2 o u') (E := fun r => Rn l G iX7_reset d 38 [(0, rv (some t0))] [] r o u') (fun s y hy k0 kE => btX7_reset_2 hy (fun s' e => k0 s' e) (fun r e => kE r e)) N s0 r h k1
theorem tX7_reset {l : Launch} {G : Gt} {d : Nat} {t0 : Nat} {u : Mem} {y : Mem} (h : fX7_reset t0 u = some y) : Rn l G iX7_reset d 0 [(0, rv (some t0))] [] u (.returned none) y := by
  unfold fX7_reset at h
  refine rn_iconst (pc := 0) (v := 0) dX7_reset_0 (by decide) ?_
  refine rn_istore_n (pc := 1) (lv' := [(1, .int (0 : Int32)), (0, rv (some t0))]) dX7_reset_1 rfl (by decide) rfl ?_
  obtain ⟨r7, hr7, h1⟩ := bnd_some h
  refine rn_sub [1, 0] rfl (lX7_reset_2 hr7 ?_)
  refine rn_aload_n (pc := 38) 0 dX7_reset_38 rfl rfl ?_
  refine rn_iconst (pc := 39) (v := 0) dX7_reset_39 (by decide) ?_
  obtain ⟨u8, hu8, h2⟩ := bnd_some h1
  refine rn_putI (pc := 40) (k := 2) okX7 (by decide) tw_139 (Or.inl rfl) (Or.inl rfl) dX7_reset_40 hu8 ?_
  refine rn_aload_n (pc := 43) 0 dX7_reset_43 rfl rfl ?_
  refine rn_iconst (pc := 44) (v := 0) dX7_reset_44 (by decide) ?_
  obtain ⟨u9, hu9, h3⟩ := bnd_some h2
  refine rn_putI (pc := 45) (k := 3) okX7 (by decide) tw_142 (Or.inl rfl) (Or.inl rfl) dX7_reset_45 hu9 ?_
  refine rn_aload_n (pc := 48) 0 dX7_reset_48 rfl rfl ?_
  refine rn_iconst (pc := 49) (v := -1) dX7_reset_49 (by decide) ?_
  obtain ⟨u10, hu10, h4⟩ := bnd_some h3
  refine rn_putI (pc := 50) (k := 4) okX7 (by decide) tw_145 (Or.inl rfl) (Or.inl rfl) dX7_reset_50 hu10 ?_
  refine rn_aload_n (pc := 53) 0 dX7_reset_53 rfl rfl ?_
  refine rn_iconst (pc := 54) (v := -1) dX7_reset_54 (by decide) ?_
  obtain ⟨u11, hu11, h5⟩ := bnd_some h4
  refine rn_putI (pc := 55) (k := 5) okX7 (by decide) tw_149 (Or.inl rfl) (Or.inl rfl) dX7_reset_55 hu11 ?_
  refine rn_aload_n (pc := 58) 0 dX7_reset_58 rfl rfl ?_
  refine rn_iconst (pc := 59) (v := 1) dX7_reset_59 (by decide) ?_
  obtain ⟨u12, hu12, h6⟩ := bnd_some h5
  refine rn_putI (pc := 60) (k := 6) okX7 (by decide) tw_153 (Or.inl rfl) (Or.inl rfl) dX7_reset_60 hu12 ?_
  cases h6
  exact rn_vret (pc := 63) rfl dX7_reset_63
theorem eX7_reset {l : Launch} {G : Gt} {d : Nat} {t0 : Nat} {u : Mem} {y : Mem} (h : fX7_reset t0 u = some y) : Ex l G iX7_reset d [rv (some t0)] u (.returned none) y := Ex.of (by decide +kernel) (by decide) (Nat.le_of_ble_eq_true rfl) rfl (tX7_reset h)
theorem tX7_init {l : Launch} {G : Gt} {d : Nat} {t0 : Nat} {u : Mem} {y : Mem} (h : fX7_init t0 u = some y) : Rn l G iX7_init (d + 1) 0 [(0, rv (some t0))] [] u (.returned none) y := by
  unfold fX7_init at h
  refine rn_aload_n (pc := 0) 0 dX7_init_0 rfl rfl ?_
  refine rn_objInit (pc := 1) (by omega) tw_126 tw_97 tw_98 (by decide) dX7_init_1 ?_
  refine rn_aload_n (pc := 4) 0 dX7_init_4 rfl rfl ?_
  refine rn_bipush (pc := 5) (v := 11) dX7_init_5 (by decide) ?_
  obtain ⟨a1, u2, ha1, h1⟩ := bnd2_some h
  refine rn_newa (pc := 7) (N := 11) (atype := .int) (by decide) rfl tw_172 (by decide) (by decide) (by decide) dX7_init_7 ha1 ?_
  obtain ⟨u3, hu3, h2⟩ := bnd_some h1
  refine rn_putR (pc := 9) (k := 0) okX7 (by decide) tw_131 (Or.inr ⟨rfl, rfl, rfl⟩) rfl dX7_init_9 hu3 ?_
  refine rn_aload_n (pc := 12) 0 dX7_init_12 rfl rfl ?_
  refine rn_bipush (pc := 13) (v := 11) dX7_init_13 (by decide) ?_
  obtain ⟨a4, u5, ha4, h3⟩ := bnd2_some h2
  refine rn_newa (pc := 15) (N := 11) (atype := .int) (by decide) rfl tw_172 (by decide) (by decide) (by decide) dX7_init_15 ha4 ?_
  obtain ⟨u6, hu6, h4⟩ := bnd_some h3
  refine rn_putR (pc := 17) (k := 1) okX7 (by decide) tw_135 (Or.inr ⟨rfl, rfl, rfl⟩) rfl dX7_init_17 hu6 ?_
  refine rn_aload_n (pc := 20) 0 dX7_init_20 rfl rfl ?_
  obtain ⟨b7, hb7, h5⟩ := bnd_some h4
  obtain ⟨qb7, kb7⟩ := chk_elim hb7
  cases qb7
  obtain ⟨u8, hu8, h6⟩ := bnd_some h5
  refine rn_callV (pc := 21) (n := 0) (As := []) (rest := []) (eX7_reset (d := d + 0) hu8) (by omega) okX7 kb7 tw_130 tw_71 tw_127 tw_128 tw_129 (by decide +kernel) rfl (Nat.le_of_ble_eq_true rfl) dX7_init_21 rfl ?_
  cases h6
  exact rn_vret (pc := 24) rfl dX7_init_24
theorem eX7_init {l : Launch} {G : Gt} {d : Nat} {t0 : Nat} {u : Mem} {y : Mem} (h : fX7_init t0 u = some y) : Ex l G iX7_init (d + 1) [rv (some t0)] u (.returned none) y := Ex.of (by decide +kernel) (by decide) (Nat.le_of_ble_eq_true rfl) rfl (tX7_init h)
theorem tX6_init {l : Launch} {G : Gt} {d : Nat} {t0 : Nat} {p1 : Option Nat} {u : Mem} {y : Mem} (h : fX6_init t0 p1 u = some y) : Rn l G iX6_init (d + 2) 0 [(0, rv (some t0)), (1, rv p1)] [] u (.returned none) y := by
  unfold fX6_init at h
  refine rn_aload_n (pc := 0) 0 dX6_init_0 rfl rfl ?_
  refine rn_objInit (pc := 1) (by omega) tw_120 tw_97 tw_98 (by decide) dX6_init_1 ?_
  refine rn_aload_n (pc := 4) 0 dX6_init_4 rfl rfl ?_
  obtain ⟨a1, u2, ha1, h1⟩ := bnd2_some h
  refine rn_new (pc := 5) okX7 (by decide +kernel) tw_121 tw_122 tw_71 dX6_init_5 ha1 ?_
  refine rn_dup (pc := 8) dX6_init_8 (rv_cat _) ?_
  obtain ⟨u3, hu3, h2⟩ := bnd_some h1
  refine rn_callI (pc := 9) (n := 0) (As := []) (rest := [rv (some a1), rv (some t0)]) (eX7_init (d := d + 0) hu3) (by omega) rfl tw_125 tw_71 tw_123 tw_124 rfl (by decide +kernel) rfl (Nat.le_of_ble_eq_true rfl) dX6_init_9 rfl ?_
  obtain ⟨u4, hu4, h3⟩ := bnd_some h2
  refine rn_putR (pc := 12) (k := 0) okX6 (by decide) tw_173 (Or.inr ⟨rfl, rfl, rfl⟩) rfl dX6_init_12 hu4 ?_
  refine rn_aload_n (pc := 15) 0 dX6_init_15 rfl rfl ?_
  refine rn_iconst (pc := 16) (v := -1) dX6_init_16 (by decide) ?_
  obtain ⟨u5, hu5, h4⟩ := bnd_some h3
  refine rn_putI (pc := 17) (k := 2) okX6 (by decide) tw_177 (Or.inl rfl) (Or.inl rfl) dX6_init_17 hu5 ?_
  refine rn_aload_n (pc := 20) 0 dX6_init_20 rfl rfl ?_
  refine rn_aload_n (pc := 21) 1 dX6_init_21 rfl rfl ?_
  obtain ⟨u6, hu6, h5⟩ := bnd_some h4
  refine rn_putR (pc := 22) (k := 3) okX6 (by decide) tw_179 (Or.inr ⟨rfl, rfl, rfl⟩) rfl dX6_init_22 hu6 ?_
  cases h5
  exact rn_vret (pc := 25) rfl dX6_init_25
theorem eX6_init {l : Launch} {G : Gt} {d : Nat} {t0 : Nat} {p1 : Option Nat} {u : Mem} {y : Mem} (h : fX6_init t0 p1 u = some y) : Ex l G iX6_init (d + 2) [rv (some t0), rv p1] u (.returned none) y := Ex.of (by decide +kernel) (by decide) (by cases p1 <;> exact Nat.le_of_ble_eq_true rfl) (by cases p1 <;> rfl) (tX6_init h)
theorem tX6_begin {l : Launch} {G : Gt} {d : Nat} {t0 : Nat} {u : Mem} {y : Mem} (h : fX6_begin t0 u = some y) : Rn l G iX6_begin (d + 1) 0 [(0, rv (some t0))] [] u (.returned none) y := by
  unfold fX6_begin at h
  refine rn_aload_n (pc := 0) 0 dX6_begin_0 rfl rfl ?_
  obtain ⟨v1, hv1, h1⟩ := bnd_some h
  refine rn_getR (pc := 1) (k := 0) okX6 (by decide) tw_173 rfl dX6_begin_1 hv1 ?_
  obtain ⟨b2, hb2, h2⟩ := bnd_some h1
  obtain ⟨qb2, kb2⟩ := chk_elim hb2
  subst qb2
  obtain ⟨u3, hu3, h3⟩ := bnd_some h2
  refine rn_callV (pc := 4) (n := 0) (As := []) (rest := []) (eX7_reset (d := d + 0) hu3) (by omega) okX7 kb2 tw_130 tw_71 tw_475 tw_128 tw_129 (by decide +kernel) rfl (Nat.le_of_ble_eq_true rfl) dX6_begin_4 rfl ?_
  refine rn_aload_n (pc := 7) 0 dX6_begin_7 rfl rfl ?_
  refine rn_iconst (pc := 8) (v := 0) dX6_begin_8 (by decide) ?_
  obtain ⟨u4, hu4, h4⟩ := bnd_some h3
  refine rn_putI (pc := 9) (k := 1) okX6 (by decide) tw_175 (Or.inl rfl) (Or.inl rfl) dX6_begin_9 hu4 ?_
  refine rn_aload_n (pc := 12) 0 dX6_begin_12 rfl rfl ?_
  refine rn_iconst (pc := 13) (v := -1) dX6_begin_13 (by decide) ?_
  obtain ⟨u5, hu5, h5⟩ := bnd_some h4
  refine rn_putI (pc := 14) (k := 2) okX6 (by decide) tw_177 (Or.inl rfl) (Or.inl rfl) dX6_begin_14 hu5 ?_
  refine rn_aload_n (pc := 17) 0 dX6_begin_17 rfl rfl ?_
  refine rn_iconst (pc := 18) (v := 0) dX6_begin_18 (by decide) ?_
  obtain ⟨u6, hu6, h6⟩ := bnd_some h5
  refine rn_putI (pc := 19) (k := 6) okX6 (by decide) tw_182 (Or.inl rfl) (Or.inl rfl) dX6_begin_19 hu6 ?_
  refine rn_aload_n (pc := 22) 0 dX6_begin_22 rfl rfl ?_
  refine rn_iconst (pc := 23) (v := -1) dX6_begin_23 (by decide) ?_
  obtain ⟨u7, hu7, h7⟩ := bnd_some h6
  refine rn_putI (pc := 24) (k := 7) okX6 (by decide) tw_183 (Or.inl rfl) (Or.inl rfl) dX6_begin_24 hu7 ?_
  refine rn_aload_n (pc := 27) 0 dX6_begin_27 rfl rfl ?_
  refine rn_iconst (pc := 28) (v := 0) dX6_begin_28 (by decide) ?_
  obtain ⟨u8, hu8, h8⟩ := bnd_some h7
  refine rn_putI (pc := 29) (k := 9) okX6 (by decide) tw_185 (Or.inl rfl) (Or.inl rfl) dX6_begin_29 hu8 ?_
  refine rn_aload_n (pc := 32) 0 dX6_begin_32 rfl rfl ?_
  refine rn_iconst (pc := 33) (v := 0) dX6_begin_33 (by decide) ?_
  obtain ⟨u9, hu9, h9⟩ := bnd_some h8
  refine rn_putI (pc := 34) (k := 10) okX6 (by decide) tw_186 (Or.inl rfl) (Or.inl rfl) dX6_begin_34 hu9 ?_
  refine rn_aload_n (pc := 37) 0 dX6_begin_37 rfl rfl ?_
  refine rn_iconst (pc := 38) (v := 0) dX6_begin_38 (by decide) ?_
  obtain ⟨u10, hu10, h10⟩ := bnd_some h9
  refine rn_putI (pc := 39) (k := 11) okX6 (by decide) tw_187 (Or.inl rfl) (Or.inr ⟨rfl, by decide⟩) dX6_begin_39 hu10 ?_
  cases h10
  exact rn_vret (pc := 42) rfl dX6_begin_42
theorem eX6_begin {l : Launch} {G : Gt} {d : Nat} {t0 : Nat} {u : Mem} {y : Mem} (h : fX6_begin t0 u = some y) : Ex l G iX6_begin (d + 1) [rv (some t0)] u (.returned none) y := Ex.of (by decide +kernel) (by decide) (Nat.le_of_ble_eq_true rfl) rfl (tX6_begin h)
theorem jtX6_kindAt_76 {l : Launch} {G : Gt} {d : Nat} {p2 : Int32} {u : Mem} {y : Int32} (h : jX6_kindAt_76 p2 u = some y) : Rn l G iX6_kindAt d 76 [(2, .int p2)] [] u (.returned (some (.int y))) u := by
  unfold jX6_kindAt_76 at h
  refine rn_iload_n (pc := 76) 0 dX6_kindAt_76 rfl rfl ?_
  refine rn_bipush (pc := 77) (v := 59) dX6_kindAt_77 (by decide) ?_
  rcases if_elim h with ⟨c13, h1⟩ | ⟨c13, h1⟩
  · refine rn_ine_f (pc := 79) 86 dX6_kindAt_79 (by decide) c13 ?_
    refine rn_iconst (pc := 82) (v := 4) dX6_kindAt_82 (by decide) ?_
    refine rn_goto (pc := 83) (tgt := 87) dX6_kindAt_83 (by decide) ?_
    cases h1
    exact rn_iret (pc := 87) rfl dX6_kindAt_87
  · refine rn_ine_t (pc := 79) (tgt := 86) dX6_kindAt_79 (by decide) c13 ?_
    refine rn_iconst (pc := 86) (v := 5) dX6_kindAt_86 (by decide) ?_
    cases h1
    exact rn_iret (pc := 87) rfl dX6_kindAt_87
theorem jtX6_kindAt_62 {l : Launch} {G : Gt} {d : Nat} {p2 : Int32} {u : Mem} {y : Int32} (h : jX6_kindAt_62 p2 u = some y) : Rn l G iX6_kindAt d 62 [(2, .int p2)] [] u (.returned (some (.int y))) u := by
  unfold jX6_kindAt_62 at h
  refine rn_iload_n (pc := 62) 0 dX6_kindAt_62 rfl rfl ?_
  refine rn_bipush (pc := 63) (v := 48) dX6_kindAt_63 (by decide) ?_
  rcases if_elim h with ⟨c12, h1⟩ | ⟨c12, h1⟩
  · refine rn_ilt_t (pc := 65) (tgt := 76) dX6_kindAt_65 (by decide) c12 ?_
    exact rn_sub [0] rfl (jtX6_kindAt_76 h1)
  · refine rn_ilt_f (pc := 65) 76 dX6_kindAt_65 (by decide) c12 ?_
    refine rn_iload_n (pc := 68) 0 dX6_kindAt_68 rfl rfl ?_
    refine rn_bipush (pc := 69) (v := 57) dX6_kindAt_69 (by decide) ?_
    rcases if_elim h1 with ⟨c14, h2⟩ | ⟨c14, h2⟩
    · refine rn_igt_t (pc := 71) (tgt := 76) dX6_kindAt_71 (by decide) c14 ?_
      exact rn_sub [0] rfl (jtX6_kindAt_76 h2)
    · refine rn_igt_f (pc := 71) 76 dX6_kindAt_71 (by decide) c14 ?_
      refine rn_iconst (pc := 74) (v := 3) dX6_kindAt_74 (by decide) ?_
      cases h2
      exact rn_iret (pc := 75) rfl dX6_kindAt_75
theorem tX6_kindAt {l : Launch} {G : Gt} {d : Nat} {t0 : Nat} {p1 : Int32} {u : Mem} {y : Int32} (h : fX6_kindAt t0 p1 u = some y) : Rn l G iX6_kindAt d 0 [(0, rv (some t0)), (1, .int p1)] [] u (.returned (some (.int y))) u := by
  unfold fX6_kindAt at h
  refine rn_iload_n (pc := 0) 1 dX6_kindAt_0 rfl rfl ?_
  rcases if_elim h with ⟨c1, h1⟩ | ⟨c1, h1⟩
  · refine rn_zlt_t (pc := 1) (tgt := 22) dX6_kindAt_1 (by decide) c1 ?_
    refine rn_iconst (pc := 22) (v := 0) dX6_kindAt_22 (by decide) ?_
    cases h1
    exact rn_iret (pc := 23) rfl dX6_kindAt_23
  · refine rn_zlt_f (pc := 1) 22 dX6_kindAt_1 (by decide) c1 ?_
    refine rn_iload_n (pc := 4) 1 dX6_kindAt_4 rfl rfl ?_
    refine rn_aload_n (pc := 5) 0 dX6_kindAt_5 rfl rfl ?_
    obtain ⟨v2, hv2, h2⟩ := bnd_some h1
    refine rn_getR (pc := 6) (k := 3) okX6 (by decide) tw_179 rfl dX6_kindAt_6 hv2 ?_
    obtain ⟨v3, hv3, h3⟩ := bnd_some h2
    refine rn_getI (pc := 9) (k := 1) okX8 (by decide) tw_108 rfl dX6_kindAt_9 hv3 ?_
    rcases if_elim h3 with ⟨c4, h4⟩ | ⟨c4, h4⟩
    · refine rn_ige_f (pc := 12) 22 dX6_kindAt_12 (by decide) c4 ?_
      refine rn_iload_n (pc := 15) 1 dX6_kindAt_15 rfl rfl ?_
      refine rn_sipush (pc := 16) (v := 500) dX6_kindAt_16 (by decide) ?_
      rcases if_elim h4 with ⟨c5, h5⟩ | ⟨c5, h5⟩
      · refine rn_ilt_t (pc := 19) (tgt := 24) dX6_kindAt_19 (by decide) c5 ?_
        refine rn_aload_n (pc := 24) 0 dX6_kindAt_24 rfl rfl ?_
        obtain ⟨v6, hv6, h6⟩ := bnd_some h5
        refine rn_getR (pc := 25) (k := 3) okX6 (by decide) tw_179 rfl dX6_kindAt_25 hv6 ?_
        obtain ⟨v7, hv7, h7⟩ := bnd_some h6
        refine rn_getR (pc := 28) (k := 0) okX8 (by decide) tw_105 rfl dX6_kindAt_28 hv7 ?_
        refine rn_iload_n (pc := 31) 1 dX6_kindAt_31 rfl rfl ?_
        obtain ⟨v8, hv8, h8⟩ := bnd_some h7
        refine rn_bald (pc := 32) dX6_kindAt_32 hv8 ?_
        refine rn_istore_n (pc := 33) (lv' := [(2, .int v8), (0, rv (some t0)), (1, .int p1)]) dX6_kindAt_33 rfl (by decide) rfl ?_
        refine rn_iload_n (pc := 34) 0 dX6_kindAt_34 rfl rfl ?_
        refine rn_bipush (pc := 35) (v := 32) dX6_kindAt_35 (by decide) ?_
        rcases if_elim h8 with ⟨c9, h9⟩ | ⟨c9, h9⟩
        · refine rn_ieq_t (pc := 37) (tgt := 46) dX6_kindAt_37 (by decide) c9 ?_
          refine rn_iconst (pc := 46) (v := 1) dX6_kindAt_46 (by decide) ?_
          cases h9
          exact rn_iret (pc := 47) rfl dX6_kindAt_47
        · refine rn_ieq_f (pc := 37) 46 dX6_kindAt_37 (by decide) c9 ?_
          refine rn_iload_n (pc := 40) 0 dX6_kindAt_40 rfl rfl ?_
          refine rn_bipush (pc := 41) (v := 10) dX6_kindAt_41 (by decide) ?_
          rcases if_elim h9 with ⟨c10, h10⟩ | ⟨c10, h10⟩
          · refine rn_ine_f (pc := 43) 48 dX6_kindAt_43 (by decide) c10 ?_
            refine rn_iconst (pc := 46) (v := 1) dX6_kindAt_46 (by decide) ?_
            cases h10
            exact rn_iret (pc := 47) rfl dX6_kindAt_47
          · refine rn_ine_t (pc := 43) (tgt := 48) dX6_kindAt_43 (by decide) c10 ?_
            refine rn_iload_n (pc := 48) 0 dX6_kindAt_48 rfl rfl ?_
            refine rn_bipush (pc := 49) (v := 97) dX6_kindAt_49 (by decide) ?_
            rcases if_elim h10 with ⟨c11, h11⟩ | ⟨c11, h11⟩
            · refine rn_ilt_t (pc := 51) (tgt := 62) dX6_kindAt_51 (by decide) c11 ?_
              exact rn_sub [0] rfl (jtX6_kindAt_62 h11)
            · refine rn_ilt_f (pc := 51) 62 dX6_kindAt_51 (by decide) c11 ?_
              refine rn_iload_n (pc := 54) 0 dX6_kindAt_54 rfl rfl ?_
              refine rn_bipush (pc := 55) (v := 122) dX6_kindAt_55 (by decide) ?_
              rcases if_elim h11 with ⟨c15, h12⟩ | ⟨c15, h12⟩
              · refine rn_igt_t (pc := 57) (tgt := 62) dX6_kindAt_57 (by decide) c15 ?_
                exact rn_sub [0] rfl (jtX6_kindAt_62 h12)
              · refine rn_igt_f (pc := 57) 62 dX6_kindAt_57 (by decide) c15 ?_
                refine rn_iconst (pc := 60) (v := 2) dX6_kindAt_60 (by decide) ?_
                cases h12
                exact rn_iret (pc := 61) rfl dX6_kindAt_61
      · refine rn_ilt_f (pc := 19) 24 dX6_kindAt_19 (by decide) c5 ?_
        refine rn_iconst (pc := 22) (v := 0) dX6_kindAt_22 (by decide) ?_
        cases h5
        exact rn_iret (pc := 23) rfl dX6_kindAt_23
    · refine rn_ige_t (pc := 12) (tgt := 22) dX6_kindAt_12 (by decide) c4 ?_
      refine rn_iconst (pc := 22) (v := 0) dX6_kindAt_22 (by decide) ?_
      cases h4
      exact rn_iret (pc := 23) rfl dX6_kindAt_23
theorem eX6_kindAt {l : Launch} {G : Gt} {d : Nat} {t0 : Nat} {p1 : Int32} {u : Mem} {y : Int32} (h : fX6_kindAt t0 p1 u = some y) : Ex l G iX6_kindAt d [rv (some t0), .int p1] u (.returned (some (.int y))) u := Ex.of (by decide +kernel) (by decide) (Nat.le_of_ble_eq_true rfl) rfl (tX6_kindAt h)
theorem btX6_readToken_0 {l : Launch} {G : Gt} {d : Nat} {t0 : Nat} {u : Mem} {y : (Mem) ⊕ (Mem)} {o : Outcome} {u' : Mem} (h : bX6_readToken_0 t0 u = some y) (k0 : ∀ s' : Mem, y = .inl s' → Rn l G iX6_readToken (d + 1) 0 [(0, rv (some t0))] [] s' o u') (k1 : ∀ r : Mem, y = .inr (r) → Rn l G iX6_readToken (d + 1) 39 [(0, rv (some t0))] [] r o u') : Rn l G iX6_readToken (d + 1) 0 [(0, rv (some t0))] [] u o u' := by
  unfold bX6_readToken_0 at h
  refine rn_aload_n (pc := 0) 0 dX6_readToken_0 rfl rfl ?_
  obtain ⟨v1, hv1, h1⟩ := bnd_some h
  refine rn_getI (pc := 1) (k := 6) okX6 (by decide) tw_182 rfl dX6_readToken_1 hv1 ?_
  refine rn_aload_n (pc := 4) 0 dX6_readToken_4 rfl rfl ?_
  obtain ⟨v2, hv2, h2⟩ := bnd_some h1
  refine rn_getR (pc := 5) (k := 3) okX6 (by decide) tw_179 rfl dX6_readToken_5 hv2 ?_
  obtain ⟨v3, hv3, h3⟩ := bnd_some h2
  refine rn_getI (pc := 8) (k := 1) okX8 (by decide) tw_108 rfl dX6_readToken_8 hv3 ?_
  rcases if_elim h3 with ⟨c4, h4⟩ | ⟨c4, h4⟩
  · refine rn_ige_f (pc := 11) 39 dX6_readToken_11 (by decide) c4 ?_
    refine rn_aload_n (pc := 14) 0 dX6_readToken_14 rfl rfl ?_
    refine rn_aload_n (pc := 15) 0 dX6_readToken_15 rfl rfl ?_
    obtain ⟨v5, hv5, h5⟩ := bnd_some h4
    refine rn_getI (pc := 16) (k := 6) okX6 (by decide) tw_182 rfl dX6_readToken_16 hv5 ?_
    obtain ⟨b6, hb6, h6⟩ := bnd_some h5
    obtain ⟨qb6, kb6⟩ := chk_elim hb6
    cases qb6
    obtain ⟨v7, hv7, h7⟩ := bnd_some h6
    refine rn_callV (pc := 19) (n := 1) (As := [.int v5]) (rest := []) (eX6_kindAt (d := d + 0) hv7) (by omega) okX6 kb6 tw_481 tw_70 tw_479 tw_480 tw_2 (by decide +kernel) rfl (Nat.le_of_ble_eq_true rfl) dX6_readToken_19 rfl ?_
    refine rn_iconst (pc := 22) (v := 1) dX6_readToken_22 (by decide) ?_
    rcases if_elim h7 with ⟨c8, h8⟩ | ⟨c8, h8⟩
    · refine rn_ine_f (pc := 23) 39 dX6_readToken_23 (by decide) c8 ?_
      refine rn_aload_n (pc := 26) 0 dX6_readToken_26 rfl rfl ?_
      refine rn_dup (pc := 27) dX6_readToken_27 (rv_cat _) ?_
      obtain ⟨v9, hv9, h9⟩ := bnd_some h8
      refine rn_getI (pc := 28) (k := 6) okX6 (by decide) tw_182 rfl dX6_readToken_28 hv9 ?_
      refine rn_iconst (pc := 31) (v := 1) dX6_readToken_31 (by decide) ?_
      refine rn_iadd (pc := 32) dX6_readToken_32 ?_
      obtain ⟨u10, hu10, h10⟩ := bnd_some h9
      refine rn_putI (pc := 33) (k := 6) okX6 (by decide) tw_182 (Or.inl rfl) (Or.inl rfl) dX6_readToken_33 hu10 ?_
      refine rn_goto (pc := 36) (tgt := 0) dX6_readToken_36 (by decide) ?_
      cases h10
      exact rn_sub [0] rfl (k0 _ rfl)
    · refine rn_ine_t (pc := 23) (tgt := 39) dX6_readToken_23 (by decide) c8 ?_
      cases h8
      exact rn_sub [0] rfl (k1 _ rfl)
  · refine rn_ige_t (pc := 11) (tgt := 39) dX6_readToken_11 (by decide) c4 ?_
    cases h4
    exact rn_sub [0] rfl (k1 _ rfl)
theorem lX6_readToken_0 {l : Launch} {G : Gt} {d : Nat} {t0 : Nat} {N : Nat} {s0 : Mem} {r : Mem} {o : Outcome} {u' : Mem} (h : lp (fun s : Mem => bX6_readToken_0 t0 s) N s0 = some r) (k1 : Rn l G iX6_readToken (d + 1) 39 [(0, rv (some t0))] [] r o u') : Rn l G iX6_readToken (d + 1) 0 [(0, rv (some t0))] [] s0 o u' :=
  lp_run (P := fun s : Mem => Rn l G iX6_readToken (d + 1) 0 [(0, rv (some t0))] [] s o u') (E := fun r => Rn l G iX6_readToken (d + 1) 39 [(0, rv (some t0))] [] r o u') (fun s y hy k0 kE => btX6_readToken_0 hy (fun s' e => k0 s' e) (fun r e => kE r e)) N s0 r h k1
theorem btX6_readToken_99 {l : Launch} {G : Gt} {d : Nat} {t0 : Nat} {i1 : Int32} {u : Mem} {y : (Mem) ⊕ (Mem)} {o : Outcome} {u' : Mem} (h : bX6_readToken_99 t0 i1 u = some y) (k0 : ∀ s' : Mem, y = .inl s' → Rn l G iX6_readToken (d + 1) 99 [(0, rv (some t0)), (1, .int i1)] [] s' o u') (k1 : ∀ r : Mem, y = .inr (r) → Rn l G iX6_readToken (d + 1) 145 [(0, rv (some t0))] [] r o u') : Rn l G iX6_readToken (d + 1) 99 [(0, rv (some t0)), (1, .int i1)] [] u o u' := by
  unfold bX6_readToken_99 at h
  refine rn_iload_n (pc := 99) 1 dX6_readToken_99 rfl rfl ?_
  rcases if_elim h with ⟨c24, h1⟩ | ⟨c24, h1⟩
  · refine rn_zeq_t (pc := 100) (tgt := 145) dX6_readToken_100 (by decide) c24 ?_
    cases h1
    exact rn_sub [0] rfl (k1 _ rfl)
  · refine rn_zeq_f (pc := 100) 145 dX6_readToken_100 (by decide) c24 ?_
    refine rn_aload_n (pc := 103) 0 dX6_readToken_103 rfl rfl ?_
    obtain ⟨v25, hv25, h2⟩ := bnd_some h1
    refine rn_getI (pc := 104) (k := 6) okX6 (by decide) tw_182 rfl dX6_readToken_104 hv25 ?_
    refine rn_aload_n (pc := 107) 0 dX6_readToken_107 rfl rfl ?_
    obtain ⟨v26, hv26, h3⟩ := bnd_some h2
    refine rn_getR (pc := 108) (k := 3) okX6 (by decide) tw_179 rfl dX6_readToken_108 hv26 ?_
    obtain ⟨v27, hv27, h4⟩ := bnd_some h3
    refine rn_getI (pc := 111) (k := 1) okX8 (by decide) tw_108 rfl dX6_readToken_111 hv27 ?_
    rcases if_elim h4 with ⟨c28, h5⟩ | ⟨c28, h5⟩
    · refine rn_ige_f (pc := 114) 145 dX6_readToken_114 (by decide) c28 ?_
      refine rn_aload_n (pc := 117) 0 dX6_readToken_117 rfl rfl ?_
      refine rn_aload_n (pc := 118) 0 dX6_readToken_118 rfl rfl ?_
      obtain ⟨v29, hv29, h6⟩ := bnd_some h5
      refine rn_getI (pc := 119) (k := 6) okX6 (by decide) tw_182 rfl dX6_readToken_119 hv29 ?_
      obtain ⟨b30, hb30, h7⟩ := bnd_some h6
      obtain ⟨qb30, kb30⟩ := chk_elim hb30
      cases qb30
      obtain ⟨v31, hv31, h8⟩ := bnd_some h7
      refine rn_callV (pc := 122) (n := 1) (As := [.int v29]) (rest := []) (eX6_kindAt (d := d + 0) hv31) (by omega) okX6 kb30 tw_481 tw_70 tw_479 tw_480 tw_2 (by decide +kernel) rfl (Nat.le_of_ble_eq_true rfl) dX6_readToken_122 rfl ?_
      refine rn_aload_n (pc := 125) 0 dX6_readToken_125 rfl rfl ?_
      obtain ⟨v32, hv32, h9⟩ := bnd_some h8
      refine rn_getI (pc := 126) (k := 4) okX6 (by decide) tw_180 rfl dX6_readToken_126 hv32 ?_
      rcases if_elim h9 with ⟨c33, h10⟩ | ⟨c33, h10⟩
      · refine rn_ine_f (pc := 129) 145 dX6_readToken_129 (by decide) c33 ?_
        refine rn_aload_n (pc := 132) 0 dX6_readToken_132 rfl rfl ?_
        refine rn_dup (pc := 133) dX6_readToken_133 (rv_cat _) ?_
        obtain ⟨v34, hv34, h11⟩ := bnd_some h10
        refine rn_getI (pc := 134) (k := 6) okX6 (by decide) tw_182 rfl dX6_readToken_134 hv34 ?_
        refine rn_iconst (pc := 137) (v := 1) dX6_readToken_137 (by decide) ?_
        refine rn_iadd (pc := 138) dX6_readToken_138 ?_
        obtain ⟨u35, hu35, h12⟩ := bnd_some h11
        refine rn_putI (pc := 139) (k := 6) okX6 (by decide) tw_182 (Or.inl rfl) (Or.inl rfl) dX6_readToken_139 hu35 ?_
        refine rn_goto (pc := 142) (tgt := 99) dX6_readToken_142 (by decide) ?_
        cases h12
        exact rn_sub [0, 1] rfl (k0 _ rfl)
      · refine rn_ine_t (pc := 129) (tgt := 145) dX6_readToken_129 (by decide) c33 ?_
        cases h10
        exact rn_sub [0] rfl (k1 _ rfl)
    · refine rn_ige_t (pc := 114) (tgt := 145) dX6_readToken_114 (by decide) c28 ?_
      cases h5
      exact rn_sub [0] rfl (k1 _ rfl)
theorem lX6_readToken_99 {l : Launch} {G : Gt} {d : Nat} {t0 : Nat} {i1 : Int32} {N : Nat} {s0 : Mem} {r : Mem} {o : Outcome} {u' : Mem} (h : lp (fun s : Mem => bX6_readToken_99 t0 i1 s) N s0 = some r) (k1 : Rn l G iX6_readToken (d + 1) 145 [(0, rv (some t0))] [] r o u') : Rn l G iX6_readToken (d + 1) 99 [(0, rv (some t0)), (1, .int i1)] [] s0 o u' :=
  lp_run (P := fun s : Mem => Rn l G iX6_readToken (d + 1) 99 [(0, rv (some t0)), (1, .int i1)] [] s o u') (E := fun r => Rn l G iX6_readToken (d + 1) 145 [(0, rv (some t0))] [] r o u') (fun s y hy k0 kE => btX6_readToken_99 hy (fun s' e => k0 s' e) (fun r e => kE r e)) N s0 r h k1
theorem jtX6_readToken_145 {l : Launch} {G : Gt} {d : Nat} {t0 : Nat} {u : Mem} {y : Mem} (h : jX6_readToken_145 t0 u = some y) : Rn l G iX6_readToken (d + 1) 145 [(0, rv (some t0))] [] u (.returned none) y := by
  unfold jX6_readToken_145 at h
  refine rn_aload_n (pc := 145) 0 dX6_readToken_145 rfl rfl ?_
  obtain ⟨v37, hv37, h1⟩ := bnd_some h
  refine rn_getI (pc := 146) (k := 4) okX6 (by decide) tw_180 rfl dX6_readToken_146 hv37 ?_
  refine rn_iconst (pc := 149) (v := 3) dX6_readToken_149 (by decide) ?_
  rcases if_elim h1 with ⟨c38, h2⟩ | ⟨c38, h2⟩
  · refine rn_ine_f (pc := 150) 171 dX6_readToken_150 (by decide) c38 ?_
    refine rn_aload_n (pc := 153) 0 dX6_readToken_153 rfl rfl ?_
    obtain ⟨v39, hv39, h3⟩ := bnd_some h2
    refine rn_getI (pc := 154) (k := 6) okX6 (by decide) tw_182 rfl dX6_readToken_154 hv39 ?_
    refine rn_aload_n (pc := 157) 0 dX6_readToken_157 rfl rfl ?_
    obtain ⟨v40, hv40, h4⟩ := bnd_some h3
    refine rn_getI (pc := 158) (k := 5) okX6 (by decide) tw_181 rfl dX6_readToken_158 hv40 ?_
    refine rn_isub (pc := 161) dX6_readToken_161 ?_
    refine rn_iconst (pc := 162) (v := 4) dX6_readToken_162 (by decide) ?_
    rcases if_elim h4 with ⟨c41, h5⟩ | ⟨c41, h5⟩
    · refine rn_ile_f (pc := 163) 171 dX6_readToken_163 (by decide) c41 ?_
      refine rn_aload_n (pc := 166) 0 dX6_readToken_166 rfl rfl ?_
      refine rn_iconst (pc := 167) (v := 5) dX6_readToken_167 (by decide) ?_
      obtain ⟨u42, hu42, h6⟩ := bnd_some h5
      refine rn_putI (pc := 168) (k := 4) okX6 (by decide) tw_180 (Or.inl rfl) (Or.inl rfl) dX6_readToken_168 hu42 ?_
      cases h6
      exact rn_vret (pc := 171) rfl dX6_readToken_171
    · refine rn_ile_t (pc := 163) (tgt := 171) dX6_readToken_163 (by decide) c41 ?_
      cases h5
      exact rn_vret (pc := 171) rfl dX6_readToken_171
  · refine rn_ine_t (pc := 150) (tgt := 171) dX6_readToken_150 (by decide) c38 ?_
    cases h2
    exact rn_vret (pc := 171) rfl dX6_readToken_171
theorem jtX6_readToken_39 {l : Launch} {G : Gt} {d : Nat} {t0 : Nat} {u : Mem} {y : Mem} (h : jX6_readToken_39 t0 u = some y) : Rn l G iX6_readToken (d + 1) 39 [(0, rv (some t0))] [] u (.returned none) y := by
  unfold jX6_readToken_39 at h
  refine rn_aload_n (pc := 39) 0 dX6_readToken_39 rfl rfl ?_
  refine rn_aload_n (pc := 40) 0 dX6_readToken_40 rfl rfl ?_
  obtain ⟨v12, hv12, h1⟩ := bnd_some h
  refine rn_getI (pc := 41) (k := 6) okX6 (by decide) tw_182 rfl dX6_readToken_41 hv12 ?_
  obtain ⟨u13, hu13, h2⟩ := bnd_some h1
  refine rn_putI (pc := 44) (k := 5) okX6 (by decide) tw_181 (Or.inl rfl) (Or.inl rfl) dX6_readToken_44 hu13 ?_
  refine rn_aload_n (pc := 47) 0 dX6_readToken_47 rfl rfl ?_
  refine rn_aload_n (pc := 48) 0 dX6_readToken_48 rfl rfl ?_
  refine rn_aload_n (pc := 49) 0 dX6_readToken_49 rfl rfl ?_
  obtain ⟨v14, hv14, h3⟩ := bnd_some h2
  refine rn_getI (pc := 50) (k := 5) okX6 (by decide) tw_181 rfl dX6_readToken_50 hv14 ?_
  obtain ⟨b15, hb15, h4⟩ := bnd_some h3
  obtain ⟨qb15, kb15⟩ := chk_elim hb15
  cases qb15
  obtain ⟨v16, hv16, h5⟩ := bnd_some h4
  refine rn_callV (pc := 53) (n := 1) (As := [.int v14]) (rest := [rv (some t0)]) (eX6_kindAt (d := d + 0) hv16) (by omega) okX6 kb15 tw_481 tw_70 tw_479 tw_480 tw_2 (by decide +kernel) rfl (Nat.le_of_ble_eq_true rfl) dX6_readToken_53 rfl ?_
  obtain ⟨u17, hu17, h6⟩ := bnd_some h5
  refine rn_putI (pc := 56) (k := 4) okX6 (by decide) tw_180 (Or.inl rfl) (Or.inl rfl) dX6_readToken_56 hu17 ?_
  refine rn_aload_n (pc := 59) 0 dX6_readToken_59 rfl rfl ?_
  obtain ⟨v18, hv18, h7⟩ := bnd_some h6
  refine rn_getI (pc := 60) (k := 4) okX6 (by decide) tw_180 rfl dX6_readToken_60 hv18 ?_
  rcases if_elim h7 with ⟨c19, h8⟩ | ⟨c19, h8⟩
  · refine rn_zne_f (pc := 63) 67 dX6_readToken_63 (by decide) c19 ?_
    cases h8
    exact rn_vret (pc := 66) rfl dX6_readToken_66
  · refine rn_zne_t (pc := 63) (tgt := 67) dX6_readToken_63 (by decide) c19 ?_
    refine rn_aload_n (pc := 67) 0 dX6_readToken_67 rfl rfl ?_
    refine rn_dup (pc := 68) dX6_readToken_68 (rv_cat _) ?_
    obtain ⟨v20, hv20, h9⟩ := bnd_some h8
    refine rn_getI (pc := 69) (k := 6) okX6 (by decide) tw_182 rfl dX6_readToken_69 hv20 ?_
    refine rn_iconst (pc := 72) (v := 1) dX6_readToken_72 (by decide) ?_
    refine rn_iadd (pc := 73) dX6_readToken_73 ?_
    obtain ⟨u21, hu21, h10⟩ := bnd_some h9
    refine rn_putI (pc := 74) (k := 6) okX6 (by decide) tw_182 (Or.inl rfl) (Or.inl rfl) dX6_readToken_74 hu21 ?_
    refine rn_aload_n (pc := 77) 0 dX6_readToken_77 rfl rfl ?_
    obtain ⟨v22, hv22, h11⟩ := bnd_some h10
    refine rn_getI (pc := 78) (k := 4) okX6 (by decide) tw_180 rfl dX6_readToken_78 hv22 ?_
    refine rn_iconst (pc := 81) (v := 2) dX6_readToken_81 (by decide) ?_
    rcases if_elim h11 with ⟨c23, h12⟩ | ⟨c23, h12⟩
    · refine rn_ieq_t (pc := 82) (tgt := 93) dX6_readToken_82 (by decide) c23 ?_
      refine rn_iconst (pc := 93) (v := 1) dX6_readToken_93 (by decide) ?_
      refine rn_goto (pc := 94) (tgt := 98) dX6_readToken_94 (by decide) ?_
      refine rn_istore_n (pc := 98) (lv' := [(1, .int (1 : Int32)), (0, rv (some t0))]) dX6_readToken_98 rfl (by decide) rfl ?_
      obtain ⟨r36, hr36, h13⟩ := bnd_some h12
      refine rn_sub [1, 0] rfl (lX6_readToken_99 hr36 ?_)
      exact rn_sub [0] rfl (jtX6_readToken_145 h13)
    · refine rn_ieq_f (pc := 82) 93 dX6_readToken_82 (by decide) c23 ?_
      refine rn_aload_n (pc := 85) 0 dX6_readToken_85 rfl rfl ?_
      obtain ⟨v43, hv43, h14⟩ := bnd_some h12
      refine rn_getI (pc := 86) (k := 4) okX6 (by decide) tw_180 rfl dX6_readToken_86 hv43 ?_
      refine rn_iconst (pc := 89) (v := 3) dX6_readToken_89 (by decide) ?_
      rcases if_elim h14 with ⟨c44, h15⟩ | ⟨c44, h15⟩
      · refine rn_ine_f (pc := 90) 97 dX6_readToken_90 (by decide) c44 ?_
        refine rn_iconst (pc := 93) (v := 1) dX6_readToken_93 (by decide) ?_
        refine rn_goto (pc := 94) (tgt := 98) dX6_readToken_94 (by decide) ?_
        refine rn_istore_n (pc := 98) (lv' := [(1, .int (1 : Int32)), (0, rv (some t0))]) dX6_readToken_98 rfl (by decide) rfl ?_
        obtain ⟨r45, hr45, h16⟩ := bnd_some h15
        refine rn_sub [1, 0] rfl (lX6_readToken_99 hr45 ?_)
        exact rn_sub [0] rfl (jtX6_readToken_145 h16)
      · refine rn_ine_t (pc := 90) (tgt := 97) dX6_readToken_90 (by decide) c44 ?_
        refine rn_iconst (pc := 97) (v := 0) dX6_readToken_97 (by decide) ?_
        refine rn_istore_n (pc := 98) (lv' := [(1, .int (0 : Int32)), (0, rv (some t0))]) dX6_readToken_98 rfl (by decide) rfl ?_
        obtain ⟨r46, hr46, h17⟩ := bnd_some h15
        refine rn_sub [1, 0] rfl (lX6_readToken_99 hr46 ?_)
        exact rn_sub [0] rfl (jtX6_readToken_145 h17)
theorem tX6_readToken {l : Launch} {G : Gt} {d : Nat} {t0 : Nat} {u : Mem} {y : Mem} (h : fX6_readToken t0 u = some y) : Rn l G iX6_readToken (d + 1) 0 [(0, rv (some t0))] [] u (.returned none) y := by
  unfold fX6_readToken at h
  obtain ⟨r11, hr11, h1⟩ := bnd_some h
  refine rn_sub [0] rfl (lX6_readToken_0 hr11 ?_)
  exact rn_sub [0] rfl (jtX6_readToken_39 h1)
theorem eX6_readToken {l : Launch} {G : Gt} {d : Nat} {t0 : Nat} {u : Mem} {y : Mem} (h : fX6_readToken t0 u = some y) : Ex l G iX6_readToken (d + 1) [rv (some t0)] u (.returned none) y := Ex.of (by decide +kernel) (by decide) (Nat.le_of_ble_eq_true rfl) rfl (tX6_readToken h)
theorem btX6_isWord_28 {l : Launch} {G : Gt} {d : Nat} {t0 : Nat} {i1 : Option Nat} {u : Mem} {s2 : Int32} {y : (Int32) ⊕ ((Unit) ⊕ (Unit))} {o : Outcome} {u' : Mem} (h : bX6_isWord_28 t0 i1 u s2 = some y) (k0 : ∀ s' : Int32, y = .inl s' → Rn l G iX6_isWord (d + 4) 28 [(0, rv (some t0)), (1, rv i1), (2, .int s')] [] u o u') (k1 : ∀ r : Unit, y = .inr (.inl r) → Rn l G iX6_isWord (d + 4) 66 [] [] u o u') (k2 : ∀ r : Unit, y = .inr (.inr (r)) → Rn l G iX6_isWord (d + 4) 58 [] [] u o u') : Rn l G iX6_isWord (d + 4) 28 [(0, rv (some t0)), (1, rv i1), (2, .int s2)] [] u o u' := by
  unfold bX6_isWord_28 at h
  refine rn_iload_n (pc := 28) 2 dX6_isWord_28 rfl rfl ?_
  refine rn_aload_n (pc := 29) 1 dX6_isWord_29 rfl rfl ?_
  obtain ⟨v7, hv7, h1⟩ := bnd_some h
  refine rn_strLen (pc := 30) (rest := [.int s2]) (by omega) tw_494 (cat_le8 (Nat.le_of_ble_eq_true rfl)) dX6_isWord_30 hv7 ?_
  rcases if_elim h1 with ⟨c8, h2⟩ | ⟨c8, h2⟩
  · refine rn_ige_f (pc := 33) 66 dX6_isWord_33 (by decide) c8 ?_
    refine rn_aload_n (pc := 36) 0 dX6_isWord_36 rfl rfl ?_
    obtain ⟨v9, hv9, h3⟩ := bnd_some h2
    refine rn_getR (pc := 37) (k := 3) okX6 (by decide) tw_179 rfl dX6_isWord_37 hv9 ?_
    obtain ⟨v10, hv10, h4⟩ := bnd_some h3
    refine rn_getR (pc := 40) (k := 0) okX8 (by decide) tw_105 rfl dX6_isWord_40 hv10 ?_
    refine rn_aload_n (pc := 43) 0 dX6_isWord_43 rfl rfl ?_
    obtain ⟨v11, hv11, h5⟩ := bnd_some h4
    refine rn_getI (pc := 44) (k := 5) okX6 (by decide) tw_181 rfl dX6_isWord_44 hv11 ?_
    refine rn_iload_n (pc := 47) 2 dX6_isWord_47 rfl rfl ?_
    refine rn_iadd (pc := 48) dX6_isWord_48 ?_
    obtain ⟨v12, hv12, h6⟩ := bnd_some h5
    refine rn_bald (pc := 49) dX6_isWord_49 hv12 ?_
    refine rn_aload_n (pc := 50) 1 dX6_isWord_50 rfl rfl ?_
    refine rn_iload_n (pc := 51) 2 dX6_isWord_51 rfl rfl ?_
    obtain ⟨v13, hv13, h7⟩ := bnd_some h6
    refine rn_strAt (pc := 52) (rest := [.int v12]) (by omega) tw_503 (cat_le8 (Nat.le_of_ble_eq_true rfl)) dX6_isWord_52 hv13 ?_
    rcases if_elim h7 with ⟨c14, h8⟩ | ⟨c14, h8⟩
    · refine rn_ieq_t (pc := 55) (tgt := 60) dX6_isWord_55 (by decide) c14 ?_
      obtain ⟨x15, ex15, h9⟩ := nm_elim h8
      refine rn_iinc (pc := 60) (v := x15) (lv' := [(2, .int x15), (0, rv (some t0)), (1, rv i1)]) 2 dX6_isWord_60 rfl (by rw [ex15]; rfl) (by decide) (by generalize i1 = q; cases q <;> rfl) ?_
      refine rn_goto (pc := 63) (tgt := 28) dX6_isWord_63 (by decide) ?_
      cases h9
      exact rn_sub [1, 2, 0] rfl (k0 _ rfl)
    · refine rn_ieq_f (pc := 55) 60 dX6_isWord_55 (by decide) c14 ?_
      cases h8
      exact rn_sub [] rfl (k2 _ rfl)
  · refine rn_ige_t (pc := 33) (tgt := 66) dX6_isWord_33 (by decide) c8 ?_
    cases h2
    exact rn_sub [] rfl (k1 _ rfl)
theorem lX6_isWord_28 {l : Launch} {G : Gt} {d : Nat} {t0 : Nat} {i1 : Option Nat} {u : Mem} {N : Nat} {s0 : Int32} {r : (Unit) ⊕ (Unit)} {o : Outcome} {u' : Mem} (h : lp (fun s : Int32 => bX6_isWord_28 t0 i1 u s) N s0 = some r) (k1 : ∀ r' : Unit, r = .inl r' → Rn l G iX6_isWord (d + 4) 66 [] [] u o u') (k2 : ∀ r' : Unit, r = .inr (r') → Rn l G iX6_isWord (d + 4) 58 [] [] u o u') : Rn l G iX6_isWord (d + 4) 28 [(0, rv (some t0)), (1, rv i1), (2, .int s0)] [] u o u' :=
  lp_run (P := fun s : Int32 => Rn l G iX6_isWord (d + 4) 28 [(0, rv (some t0)), (1, rv i1), (2, .int s)] [] u o u') (E := fun r => (∀ r' : Unit, r = .inl r' → Rn l G iX6_isWord (d + 4) 66 [] [] u o u') ∧ (∀ r' : Unit, r = .inr (r') → Rn l G iX6_isWord (d + 4) 58 [] [] u o u')) (fun s y hy k0 kE => btX6_isWord_28 hy (fun s' e => k0 s' e) (fun r e => (kE _ e).1 r rfl) (fun r e => (kE _ e).2 r rfl)) N s0 r h ⟨k1, k2⟩
theorem tX6_isWord {l : Launch} {G : Gt} {d : Nat} {t0 : Nat} {p1 : Option Nat} {u : Mem} {y : Int32} (h : fX6_isWord t0 p1 u = some y) : Rn l G iX6_isWord (d + 4) 0 [(0, rv (some t0)), (1, rv p1)] [] u (.returned (some (.int y))) u := by
  unfold fX6_isWord at h
  refine rn_aload_n (pc := 0) 0 dX6_isWord_0 rfl rfl ?_
  obtain ⟨v1, hv1, h1⟩ := bnd_some h
  refine rn_getI (pc := 1) (k := 4) okX6 (by decide) tw_180 rfl dX6_isWord_1 hv1 ?_
  refine rn_iconst (pc := 4) (v := 2) dX6_isWord_4 (by decide) ?_
  rcases if_elim h1 with ⟨c2, h2⟩ | ⟨c2, h2⟩
  · refine rn_ine_f (pc := 5) 24 dX6_isWord_5 (by decide) c2 ?_
    refine rn_aload_n (pc := 8) 0 dX6_isWord_8 rfl rfl ?_
    obtain ⟨v3, hv3, h3⟩ := bnd_some h2
    refine rn_getI (pc := 9) (k := 6) okX6 (by decide) tw_182 rfl dX6_isWord_9 hv3 ?_
    refine rn_aload_n (pc := 12) 0 dX6_isWord_12 rfl rfl ?_
    obtain ⟨v4, hv4, h4⟩ := bnd_some h3
    refine rn_getI (pc := 13) (k := 5) okX6 (by decide) tw_181 rfl dX6_isWord_13 hv4 ?_
    refine rn_isub (pc := 16) dX6_isWord_16 ?_
    refine rn_aload_n (pc := 17) 1 dX6_isWord_17 rfl rfl ?_
    obtain ⟨v5, hv5, h5⟩ := bnd_some h4
    refine rn_strLen (pc := 18) (rest := [.int (v3 - v4)]) (by omega) tw_494 (cat_le8 (Nat.le_of_ble_eq_true rfl)) dX6_isWord_18 hv5 ?_
    rcases if_elim h5 with ⟨c6, h6⟩ | ⟨c6, h6⟩
    · refine rn_ieq_t (pc := 21) (tgt := 26) dX6_isWord_21 (by decide) c6 ?_
      refine rn_iconst (pc := 26) (v := 0) dX6_isWord_26 (by decide) ?_
      refine rn_istore_n (pc := 27) (lv' := [(2, .int (0 : Int32)), (0, rv (some t0)), (1, rv p1)]) dX6_isWord_27 rfl (by decide) (by generalize p1 = q; cases q <;> rfl) ?_
      obtain ⟨r16, hr16, h7⟩ := bnd_some h6
      rcases r16 with r17 | r18
      · refine rn_sub [1, 2, 0] rfl (lX6_isWord_28 hr16 (fun _ hq => ?_) (fun _ hq => by cases hq))
        cases hq
        have h8 := sumE_l h7
        refine rn_iconst (pc := 66) (v := 1) dX6_isWord_66 (by decide) ?_
        cases h8
        exact rn_zret (pc := 67) (by decide) rfl dX6_isWord_67
      · refine rn_sub [1, 2, 0] rfl (lX6_isWord_28 hr16 (fun _ hq => by cases hq) (fun _ hq => ?_))
        cases hq
        have h9 := sumE_r h7
        refine rn_iconst (pc := 58) (v := 0) dX6_isWord_58 (by decide) ?_
        cases h9
        exact rn_zret (pc := 59) (by decide) rfl dX6_isWord_59
    · refine rn_ieq_f (pc := 21) 26 dX6_isWord_21 (by decide) c6 ?_
      refine rn_iconst (pc := 24) (v := 0) dX6_isWord_24 (by decide) ?_
      cases h6
      exact rn_zret (pc := 25) (by decide) rfl dX6_isWord_25
  · refine rn_ine_t (pc := 5) (tgt := 24) dX6_isWord_5 (by decide) c2 ?_
    refine rn_iconst (pc := 24) (v := 0) dX6_isWord_24 (by decide) ?_
    cases h2
    exact rn_zret (pc := 25) (by decide) rfl dX6_isWord_25
theorem eX6_isWord {l : Launch} {G : Gt} {d : Nat} {t0 : Nat} {p1 : Option Nat} {u : Mem} {y : Int32} (h : fX6_isWord t0 p1 u = some y) : Ex l G iX6_isWord (d + 4) [rv (some t0), rv p1] u (.returned (some (.int y))) u := Ex.of (by decide +kernel) (by decide) (by cases p1 <;> exact Nat.le_of_ble_eq_true rfl) (by cases p1 <;> rfl) (tX6_isWord h)
theorem tX6_lineOfWord {l : Launch} {G : Gt} {d : Nat} {t0 : Nat} {u : Mem} {y : Int32} (h : fX6_lineOfWord t0 u = some y) : Rn l G iX6_lineOfWord (d + 5) 0 [(0, rv (some t0))] [] u (.returned (some (.int y))) u := by
  unfold fX6_lineOfWord at h
  refine rn_aload_n (pc := 0) 0 dX6_lineOfWord_0 rfl rfl ?_
  refine rn_ldcR (pc := 1) 0 (by decide) rfl rfl dX6_lineOfWord_1 ?_
  obtain ⟨b1, hb1, h1⟩ := bnd_some h
  obtain ⟨qb1, kb1⟩ := chk_elim hb1
  cases qb1
  obtain ⟨v2, hv2, h2⟩ := bnd_some h1
  refine rn_callV (pc := 3) (n := 1) (As := [rv (some 1000000)]) (rest := []) (eX6_isWord (d := d + 0) hv2) (by omega) okX6 kb1 tw_493 tw_70 tw_491 tw_492 tw_6 (by decide +kernel) rfl (Nat.le_of_ble_eq_true rfl) dX6_lineOfWord_3 rfl ?_
  rcases if_elim h2 with ⟨c3, h3⟩ | ⟨c3, h3⟩
  · refine rn_zeq_t (pc := 6) (tgt := 11) dX6_lineOfWord_6 (by decide) c3 ?_
    refine rn_aload_n (pc := 11) 0 dX6_lineOfWord_11 rfl rfl ?_
    refine rn_ldcR (pc := 12) 1 (by decide) rfl rfl dX6_lineOfWord_12 ?_
    obtain ⟨b4, hb4, h4⟩ := bnd_some h3
    obtain ⟨qb4, kb4⟩ := chk_elim hb4
    cases qb4
    obtain ⟨v5, hv5, h5⟩ := bnd_some h4
    refine rn_callV (pc := 14) (n := 1) (As := [rv (some 1000001)]) (rest := []) (eX6_isWord (d := d + 0) hv5) (by omega) okX6 kb4 tw_493 tw_70 tw_491 tw_492 tw_6 (by decide +kernel) rfl (Nat.le_of_ble_eq_true rfl) dX6_lineOfWord_14 rfl ?_
    rcases if_elim h5 with ⟨c6, h6⟩ | ⟨c6, h6⟩
    · refine rn_zeq_t (pc := 17) (tgt := 22) dX6_lineOfWord_17 (by decide) c6 ?_
      refine rn_aload_n (pc := 22) 0 dX6_lineOfWord_22 rfl rfl ?_
      refine rn_ldcR (pc := 23) 2 (by decide) rfl rfl dX6_lineOfWord_23 ?_
      obtain ⟨b7, hb7, h7⟩ := bnd_some h6
      obtain ⟨qb7, kb7⟩ := chk_elim hb7
      cases qb7
      obtain ⟨v8, hv8, h8⟩ := bnd_some h7
      refine rn_callV (pc := 25) (n := 1) (As := [rv (some 1000002)]) (rest := []) (eX6_isWord (d := d + 0) hv8) (by omega) okX6 kb7 tw_493 tw_70 tw_491 tw_492 tw_6 (by decide +kernel) rfl (Nat.le_of_ble_eq_true rfl) dX6_lineOfWord_25 rfl ?_
      rcases if_elim h8 with ⟨c9, h9⟩ | ⟨c9, h9⟩
      · refine rn_zeq_t (pc := 28) (tgt := 33) dX6_lineOfWord_28 (by decide) c9 ?_
        refine rn_aload_n (pc := 33) 0 dX6_lineOfWord_33 rfl rfl ?_
        refine rn_ldcR (pc := 34) 3 (by decide) rfl rfl dX6_lineOfWord_34 ?_
        obtain ⟨b10, hb10, h10⟩ := bnd_some h9
        obtain ⟨qb10, kb10⟩ := chk_elim hb10
        cases qb10
        obtain ⟨v11, hv11, h11⟩ := bnd_some h10
        refine rn_callV (pc := 36) (n := 1) (As := [rv (some 1000003)]) (rest := []) (eX6_isWord (d := d + 0) hv11) (by omega) okX6 kb10 tw_493 tw_70 tw_491 tw_492 tw_6 (by decide +kernel) rfl (Nat.le_of_ble_eq_true rfl) dX6_lineOfWord_36 rfl ?_
        rcases if_elim h11 with ⟨c12, h12⟩ | ⟨c12, h12⟩
        · refine rn_zeq_t (pc := 39) (tgt := 44) dX6_lineOfWord_39 (by decide) c12 ?_
          refine rn_aload_n (pc := 44) 0 dX6_lineOfWord_44 rfl rfl ?_
          refine rn_ldcR (pc := 45) 4 (by decide) rfl rfl dX6_lineOfWord_45 ?_
          obtain ⟨b13, hb13, h13⟩ := bnd_some h12
          obtain ⟨qb13, kb13⟩ := chk_elim hb13
          cases qb13
          obtain ⟨v14, hv14, h14⟩ := bnd_some h13
          refine rn_callV (pc := 47) (n := 1) (As := [rv (some 1000004)]) (rest := []) (eX6_isWord (d := d + 0) hv14) (by omega) okX6 kb13 tw_493 tw_70 tw_491 tw_492 tw_6 (by decide +kernel) rfl (Nat.le_of_ble_eq_true rfl) dX6_lineOfWord_47 rfl ?_
          rcases if_elim h14 with ⟨c15, h15⟩ | ⟨c15, h15⟩
          · refine rn_zeq_t (pc := 50) (tgt := 55) dX6_lineOfWord_50 (by decide) c15 ?_
            refine rn_aload_n (pc := 55) 0 dX6_lineOfWord_55 rfl rfl ?_
            refine rn_ldcR (pc := 56) 5 (by decide) rfl rfl dX6_lineOfWord_56 ?_
            obtain ⟨b16, hb16, h16⟩ := bnd_some h15
            obtain ⟨qb16, kb16⟩ := chk_elim hb16
            cases qb16
            obtain ⟨v17, hv17, h17⟩ := bnd_some h16
            refine rn_callV (pc := 58) (n := 1) (As := [rv (some 1000005)]) (rest := []) (eX6_isWord (d := d + 0) hv17) (by omega) okX6 kb16 tw_493 tw_70 tw_491 tw_492 tw_6 (by decide +kernel) rfl (Nat.le_of_ble_eq_true rfl) dX6_lineOfWord_58 rfl ?_
            rcases if_elim h17 with ⟨c18, h18⟩ | ⟨c18, h18⟩
            · refine rn_zeq_t (pc := 61) (tgt := 68) dX6_lineOfWord_61 (by decide) c18 ?_
              refine rn_iconst (pc := 68) (v := -1) dX6_lineOfWord_68 (by decide) ?_
              cases h18
              exact rn_iret (pc := 69) rfl dX6_lineOfWord_69
            · refine rn_zeq_f (pc := 61) 68 dX6_lineOfWord_61 (by decide) c18 ?_
              refine rn_iconst (pc := 64) (v := 5) dX6_lineOfWord_64 (by decide) ?_
              refine rn_goto (pc := 65) (tgt := 69) dX6_lineOfWord_65 (by decide) ?_
              cases h18
              exact rn_iret (pc := 69) rfl dX6_lineOfWord_69
          · refine rn_zeq_f (pc := 50) 55 dX6_lineOfWord_50 (by decide) c15 ?_
            refine rn_iconst (pc := 53) (v := 4) dX6_lineOfWord_53 (by decide) ?_
            cases h15
            exact rn_iret (pc := 54) rfl dX6_lineOfWord_54
        · refine rn_zeq_f (pc := 39) 44 dX6_lineOfWord_39 (by decide) c12 ?_
          refine rn_iconst (pc := 42) (v := 3) dX6_lineOfWord_42 (by decide) ?_
          cases h12
          exact rn_iret (pc := 43) rfl dX6_lineOfWord_43
      · refine rn_zeq_f (pc := 28) 33 dX6_lineOfWord_28 (by decide) c9 ?_
        refine rn_iconst (pc := 31) (v := 2) dX6_lineOfWord_31 (by decide) ?_
        cases h9
        exact rn_iret (pc := 32) rfl dX6_lineOfWord_32
    · refine rn_zeq_f (pc := 17) 22 dX6_lineOfWord_17 (by decide) c6 ?_
      refine rn_iconst (pc := 20) (v := 1) dX6_lineOfWord_20 (by decide) ?_
      cases h6
      exact rn_iret (pc := 21) rfl dX6_lineOfWord_21
  · refine rn_zeq_f (pc := 6) 11 dX6_lineOfWord_6 (by decide) c3 ?_
    refine rn_iconst (pc := 9) (v := 0) dX6_lineOfWord_9 (by decide) ?_
    cases h3
    exact rn_iret (pc := 10) rfl dX6_lineOfWord_10
theorem eX6_lineOfWord {l : Launch} {G : Gt} {d : Nat} {t0 : Nat} {u : Mem} {y : Int32} (h : fX6_lineOfWord t0 u = some y) : Ex l G iX6_lineOfWord (d + 5) [rv (some t0)] u (.returned (some (.int y))) u := Ex.of (by decide +kernel) (by decide) (Nat.le_of_ble_eq_true rfl) rfl (tX6_lineOfWord h)
theorem tX6_setFault {l : Launch} {G : Gt} {d : Nat} {t0 : Nat} {p1 : Int32} {u : Mem} {y : Mem} (h : fX6_setFault t0 p1 u = some y) : Rn l G iX6_setFault d 0 [(0, rv (some t0)), (1, .int p1)] [] u (.returned none) y := by
  unfold fX6_setFault at h
  refine rn_aload_n (pc := 0) 0 dX6_setFault_0 rfl rfl ?_
  refine rn_iload_n (pc := 1) 1 dX6_setFault_1 rfl rfl ?_
  obtain ⟨u1, hu1, h1⟩ := bnd_some h
  refine rn_putI (pc := 2) (k := 1) okX6 (by decide) tw_175 (Or.inl rfl) (Or.inl rfl) dX6_setFault_2 hu1 ?_
  refine rn_aload_n (pc := 5) 0 dX6_setFault_5 rfl rfl ?_
  refine rn_aload_n (pc := 6) 0 dX6_setFault_6 rfl rfl ?_
  obtain ⟨v2, hv2, h2⟩ := bnd_some h1
  refine rn_getI (pc := 7) (k := 5) okX6 (by decide) tw_181 rfl dX6_setFault_7 hv2 ?_
  obtain ⟨u3, hu3, h3⟩ := bnd_some h2
  refine rn_putI (pc := 10) (k := 2) okX6 (by decide) tw_177 (Or.inl rfl) (Or.inl rfl) dX6_setFault_10 hu3 ?_
  refine rn_aload_n (pc := 13) 0 dX6_setFault_13 rfl rfl ?_
  refine rn_iconst (pc := 14) (v := 1) dX6_setFault_14 (by decide) ?_
  obtain ⟨u4, hu4, h4⟩ := bnd_some h3
  refine rn_putI (pc := 15) (k := 11) okX6 (by decide) tw_187 (Or.inl rfl) (Or.inr ⟨rfl, by decide⟩) dX6_setFault_15 hu4 ?_
  cases h4
  exact rn_vret (pc := 18) rfl dX6_setFault_18
theorem eX6_setFault {l : Launch} {G : Gt} {d : Nat} {t0 : Nat} {p1 : Int32} {u : Mem} {y : Mem} (h : fX6_setFault t0 p1 u = some y) : Ex l G iX6_setFault d [rv (some t0), .int p1] u (.returned none) y := Ex.of (by decide +kernel) (by decide) (Nat.le_of_ble_eq_true rfl) rfl (tX6_setFault h)
theorem tX6_startLine {l : Launch} {G : Gt} {d : Nat} {t0 : Nat} {u : Mem} {y : Mem} (h : fX6_startLine t0 u = some y) : Rn l G iX6_startLine (d + 6) 0 [(0, rv (some t0))] [] u (.returned none) y := by
  unfold fX6_startLine at h
  refine rn_aload_n (pc := 0) 0 dX6_startLine_0 rfl rfl ?_
  obtain ⟨v1, hv1, h1⟩ := bnd_some h
  refine rn_getI (pc := 1) (k := 4) okX6 (by decide) tw_180 rfl dX6_startLine_1 hv1 ?_
  rcases if_elim h1 with ⟨c2, h2⟩ | ⟨c2, h2⟩
  · refine rn_zne_f (pc := 4) 13 dX6_startLine_4 (by decide) c2 ?_
    refine rn_aload_n (pc := 7) 0 dX6_startLine_7 rfl rfl ?_
    refine rn_iconst (pc := 8) (v := 1) dX6_startLine_8 (by decide) ?_
    obtain ⟨u3, hu3, h3⟩ := bnd_some h2
    refine rn_putI (pc := 9) (k := 11) okX6 (by decide) tw_187 (Or.inl rfl) (Or.inr ⟨rfl, by decide⟩) dX6_startLine_9 hu3 ?_
    cases h3
    exact rn_vret (pc := 12) rfl dX6_startLine_12
  · refine rn_zne_t (pc := 4) (tgt := 13) dX6_startLine_4 (by decide) c2 ?_
    refine rn_aload_n (pc := 13) 0 dX6_startLine_13 rfl rfl ?_
    obtain ⟨b4, hb4, h4⟩ := bnd_some h2
    obtain ⟨qb4, kb4⟩ := chk_elim hb4
    cases qb4
    obtain ⟨v5, hv5, h5⟩ := bnd_some h4
    refine rn_callV (pc := 14) (n := 0) (As := []) (rest := []) (eX6_lineOfWord (d := d + 0) hv5) (by omega) okX6 kb4 tw_490 tw_70 tw_488 tw_489 tw_5 (by decide +kernel) rfl (Nat.le_of_ble_eq_true rfl) dX6_startLine_14 rfl ?_
    refine rn_istore_n (pc := 17) (lv' := [(1, .int v5), (0, rv (some t0))]) dX6_startLine_17 rfl (by decide) rfl ?_
    refine rn_iload_n (pc := 18) 0 dX6_startLine_18 rfl rfl ?_
    refine rn_iconst (pc := 19) (v := -1) dX6_startLine_19 (by decide) ?_
    rcases if_elim h5 with ⟨c6, h6⟩ | ⟨c6, h6⟩
    · refine rn_ine_f (pc := 20) 31 dX6_startLine_20 (by decide) c6 ?_
      refine rn_aload_n (pc := 23) 1 dX6_startLine_23 rfl rfl ?_
      refine rn_iconst (pc := 24) (v := 1) dX6_startLine_24 (by decide) ?_
      obtain ⟨b7, hb7, h7⟩ := bnd_some h6
      obtain ⟨qb7, kb7⟩ := chk_elim hb7
      cases qb7
      obtain ⟨u8, hu8, h8⟩ := bnd_some h7
      refine rn_callV (pc := 25) (n := 1) (As := [.int (1 : Int32)]) (rest := []) (eX6_setFault (d := d + 5) hu8) (by omega) okX6 kb7 tw_539 tw_70 tw_537 tw_538 tw_7 (by decide +kernel) rfl (Nat.le_of_ble_eq_true rfl) dX6_startLine_25 rfl ?_
      refine rn_goto (pc := 28) (tgt := 73) dX6_startLine_28 (by decide) ?_
      cases h8
      exact rn_vret (pc := 73) rfl dX6_startLine_73
    · refine rn_ine_t (pc := 20) (tgt := 31) dX6_startLine_20 (by decide) c6 ?_
      refine rn_aload_n (pc := 31) 1 dX6_startLine_31 rfl rfl ?_
      obtain ⟨v9, hv9, h9⟩ := bnd_some h6
      refine rn_getI (pc := 32) (k := 10) okX6 (by decide) tw_186 rfl dX6_startLine_32 hv9 ?_
      refine rn_iload_n (pc := 35) 0 dX6_startLine_35 rfl rfl ?_
      refine rn_ishr (pc := 36) dX6_startLine_36 ?_
      refine rn_iconst (pc := 37) (v := 1) dX6_startLine_37 (by decide) ?_
      refine rn_iand (pc := 38) dX6_startLine_38 ?_
      refine rn_iconst (pc := 39) (v := 1) dX6_startLine_39 (by decide) ?_
      rcases if_elim h9 with ⟨c10, h10⟩ | ⟨c10, h10⟩
      · refine rn_ine_f (pc := 40) 51 dX6_startLine_40 (by decide) c10 ?_
        refine rn_aload_n (pc := 43) 1 dX6_startLine_43 rfl rfl ?_
        refine rn_iconst (pc := 44) (v := 3) dX6_startLine_44 (by decide) ?_
        obtain ⟨b11, hb11, h11⟩ := bnd_some h10
        obtain ⟨qb11, kb11⟩ := chk_elim hb11
        cases qb11
        obtain ⟨u12, hu12, h12⟩ := bnd_some h11
        refine rn_callV (pc := 45) (n := 1) (As := [.int (3 : Int32)]) (rest := []) (eX6_setFault (d := d + 5) hu12) (by omega) okX6 kb11 tw_539 tw_70 tw_537 tw_538 tw_7 (by decide +kernel) rfl (Nat.le_of_ble_eq_true rfl) dX6_startLine_45 rfl ?_
        refine rn_goto (pc := 48) (tgt := 73) dX6_startLine_48 (by decide) ?_
        cases h12
        exact rn_vret (pc := 73) rfl dX6_startLine_73
      · refine rn_ine_t (pc := 40) (tgt := 51) dX6_startLine_40 (by decide) c10 ?_
        refine rn_aload_n (pc := 51) 1 dX6_startLine_51 rfl rfl ?_
        refine rn_dup (pc := 52) dX6_startLine_52 (rv_cat _) ?_
        obtain ⟨v13, hv13, h13⟩ := bnd_some h10
        refine rn_getI (pc := 53) (k := 10) okX6 (by decide) tw_186 rfl dX6_startLine_53 hv13 ?_
        refine rn_iconst (pc := 56) (v := 1) dX6_startLine_56 (by decide) ?_
        refine rn_iload_n (pc := 57) 0 dX6_startLine_57 rfl rfl ?_
        refine rn_ishl (pc := 58) dX6_startLine_58 ?_
        refine rn_ior (pc := 59) dX6_startLine_59 ?_
        obtain ⟨u14, hu14, h14⟩ := bnd_some h13
        refine rn_putI (pc := 60) (k := 10) okX6 (by decide) tw_186 (Or.inl rfl) (Or.inl rfl) dX6_startLine_60 hu14 ?_
        refine rn_aload_n (pc := 63) 1 dX6_startLine_63 rfl rfl ?_
        refine rn_iload_n (pc := 64) 0 dX6_startLine_64 rfl rfl ?_
        obtain ⟨u15, hu15, h15⟩ := bnd_some h14
        refine rn_putI (pc := 65) (k := 7) okX6 (by decide) tw_183 (Or.inl rfl) (Or.inl rfl) dX6_startLine_65 hu15 ?_
        refine rn_aload_n (pc := 68) 1 dX6_startLine_68 rfl rfl ?_
        refine rn_iconst (pc := 69) (v := 0) dX6_startLine_69 (by decide) ?_
        obtain ⟨u16, hu16, h16⟩ := bnd_some h15
        refine rn_putI (pc := 70) (k := 8) okX6 (by decide) tw_184 (Or.inl rfl) (Or.inl rfl) dX6_startLine_70 hu16 ?_
        cases h16
        exact rn_vret (pc := 73) rfl dX6_startLine_73
theorem eX6_startLine {l : Launch} {G : Gt} {d : Nat} {t0 : Nat} {u : Mem} {y : Mem} (h : fX6_startLine t0 u = some y) : Ex l G iX6_startLine (d + 6) [rv (some t0)] u (.returned none) y := Ex.of (by decide +kernel) (by decide) (Nat.le_of_ble_eq_true rfl) rfl (tX6_startLine h)
theorem tX6_tokensBehind {l : Launch} {G : Gt} {d : Nat} {p0 : Int32} {u : Mem} {y : Int32} (h : fX6_tokensBehind p0 u = some y) : Rn l G iX6_tokensBehind d 0 [(0, .int p0)] [] u (.returned (some (.int y))) u := by
  unfold fX6_tokensBehind at h
  refine rn_iload_n (pc := 0) 0 dX6_tokensBehind_0 rfl rfl ?_
  rcases if_elim h with ⟨c1, h1⟩ | ⟨c1, h1⟩
  · refine rn_tsw_in (pc := 1) (tgt := 36) (off := 35) 0 dX6_tokensBehind_1 c1 (by decide) (by decide) ?_
    refine rn_bipush (pc := 36) (v := 11) dX6_tokensBehind_36 (by decide) ?_
    cases h1
    exact rn_iret (pc := 38) rfl dX6_tokensBehind_38
  · skip
    rcases if_elim h1 with ⟨c2, h2⟩ | ⟨c2, h2⟩
    · refine rn_tsw_in (pc := 1) (tgt := 36) (off := 35) 1 dX6_tokensBehind_1 c2 (by decide) (by decide) ?_
      refine rn_bipush (pc := 36) (v := 11) dX6_tokensBehind_36 (by decide) ?_
      cases h2
      exact rn_iret (pc := 38) rfl dX6_tokensBehind_38
    · skip
      rcases if_elim h2 with ⟨c3, h3⟩ | ⟨c3, h3⟩
      · refine rn_tsw_in (pc := 1) (tgt := 41) (off := 40) 2 dX6_tokensBehind_1 c3 (by decide) (by decide) ?_
        refine rn_iconst (pc := 41) (v := 1) dX6_tokensBehind_41 (by decide) ?_
        cases h3
        exact rn_iret (pc := 42) rfl dX6_tokensBehind_42
      · skip
        rcases if_elim h3 with ⟨c4, h4⟩ | ⟨c4, h4⟩
        · refine rn_tsw_in (pc := 1) (tgt := 41) (off := 40) 3 dX6_tokensBehind_1 c4 (by decide) (by decide) ?_
          refine rn_iconst (pc := 41) (v := 1) dX6_tokensBehind_41 (by decide) ?_
          cases h4
          exact rn_iret (pc := 42) rfl dX6_tokensBehind_42
        · skip
          rcases if_elim h4 with ⟨c5, h5⟩ | ⟨c5, h5⟩
          · refine rn_tsw_in (pc := 1) (tgt := 39) (off := 38) 4 dX6_tokensBehind_1 c5 (by decide) (by decide) ?_
            refine rn_iconst (pc := 39) (v := 2) dX6_tokensBehind_39 (by decide) ?_
            cases h5
            exact rn_iret (pc := 40) rfl dX6_tokensBehind_40
          · skip
            refine rn_tsw_out (pc := 1) (tgt := 41) dX6_tokensBehind_1 (sw_out (n := 4) (lt_s (lt_s (lt_s (lt_s (lt_s (lt_0) c1) c2) c3) c4) c5)) (by decide) ?_
            refine rn_iconst (pc := 41) (v := 1) dX6_tokensBehind_41 (by decide) ?_
            cases h5
            exact rn_iret (pc := 42) rfl dX6_tokensBehind_42
theorem eX6_tokensBehind {l : Launch} {G : Gt} {d : Nat} {p0 : Int32} {u : Mem} {y : Int32} (h : fX6_tokensBehind p0 u = some y) : Ex l G iX6_tokensBehind d [.int p0] u (.returned (some (.int y))) u := Ex.of (by decide +kernel) (by decide) (Nat.le_of_ble_eq_true rfl) rfl (tX6_tokensBehind h)
theorem btX6_takeNumber_23 {l : Launch} {G : Gt} {d : Nat} {t0 : Nat} {i1 : Int32} {i2 : Int32} {u : Mem} {s3 : Int32} {s4 : Int32} {y : (Int32 × Int32) ⊕ (Int32)} {o : Outcome} {u' : Mem} (h : bX6_takeNumber_23 t0 i1 i2 u s3 s4 = some y) (k0 : ∀ s' : Int32 × Int32, y = .inl s' → Rn l G iX6_takeNumber (d + 1) 23 [(0, rv (some t0)), (1, .int i1), (2, .int i2), (3, .int s'.1), (4, .int s'.2)] [] u o u') (k1 : ∀ r : Int32, y = .inr (r) → Rn l G iX6_takeNumber (d + 1) 57 [(0, rv (some t0)), (1, .int i1), (2, .int i2), (3, .int r)] [] u o u') : Rn l G iX6_takeNumber (d + 1) 23 [(0, rv (some t0)), (1, .int i1), (2, .int i2), (3, .int s3), (4, .int s4)] [] u o u' := by
  unfold bX6_takeNumber_23 at h
  refine rn_iload (pc := 23) 4 dX6_takeNumber_23 rfl ?_
  refine rn_aload_n (pc := 25) 0 dX6_takeNumber_25 rfl rfl ?_
  obtain ⟨v4, hv4, h1⟩ := bnd_some h
  refine rn_getI (pc := 26) (k := 6) okX6 (by decide) tw_182 rfl dX6_takeNumber_26 hv4 ?_
  rcases if_elim h1 with ⟨c5, h2⟩ | ⟨c5, h2⟩
  · refine rn_ige_f (pc := 29) 57 dX6_takeNumber_29 (by decide) c5 ?_
    refine rn_iload_n (pc := 32) 3 dX6_takeNumber_32 rfl rfl ?_
    refine rn_bipush (pc := 33) (v := 10) dX6_takeNumber_33 (by decide) ?_
    refine rn_imul (pc := 35) dX6_takeNumber_35 ?_
    refine rn_aload_n (pc := 36) 0 dX6_takeNumber_36 rfl rfl ?_
    obtain ⟨v6, hv6, h3⟩ := bnd_some h2
    refine rn_getR (pc := 37) (k := 3) okX6 (by decide) tw_179 rfl dX6_takeNumber_37 hv6 ?_
    obtain ⟨v7, hv7, h4⟩ := bnd_some h3
    refine rn_getR (pc := 40) (k := 0) okX8 (by decide) tw_105 rfl dX6_takeNumber_40 hv7 ?_
    refine rn_iload (pc := 43) 4 dX6_takeNumber_43 rfl ?_
    obtain ⟨v8, hv8, h5⟩ := bnd_some h4
    refine rn_bald (pc := 45) dX6_takeNumber_45 hv8 ?_
    refine rn_iadd (pc := 46) dX6_takeNumber_46 ?_
    refine rn_bipush (pc := 47) (v := 48) dX6_takeNumber_47 (by decide) ?_
    refine rn_isub (pc := 49) dX6_takeNumber_49 ?_
    obtain ⟨x9, ex9, h6⟩ := nm_elim h5
    refine rn_topi ex9 ?_
    refine rn_istore_n (pc := 50) (lv' := [(3, .int x9), (0, rv (some t0)), (1, .int i1), (2, .int i2), (4, .int s4)]) dX6_takeNumber_50 rfl (by decide) rfl ?_
    obtain ⟨x10, ex10, h7⟩ := nm_elim h6
    refine rn_iinc (pc := 51) (v := x10) (lv' := [(4, .int x10), (3, .int x9), (0, rv (some t0)), (1, .int i1), (2, .int i2)]) 4 dX6_takeNumber_51 rfl (by rw [ex10]; rfl) (by decide) rfl ?_
    refine rn_goto (pc := 54) (tgt := 23) dX6_takeNumber_54 (by decide) ?_
    cases h7
    exact rn_sub [2, 3, 4, 1, 0] rfl (k0 _ rfl)
  · refine rn_ige_t (pc := 29) (tgt := 57) dX6_takeNumber_29 (by decide) c5 ?_
    cases h2
    exact rn_sub [0, 1, 2, 3] rfl (k1 _ rfl)
theorem lX6_takeNumber_23 {l : Launch} {G : Gt} {d : Nat} {t0 : Nat} {i1 : Int32} {i2 : Int32} {u : Mem} {N : Nat} {s0 : Int32 × Int32} {r : Int32} {o : Outcome} {u' : Mem} (h : lp (fun s : Int32 × Int32 => bX6_takeNumber_23 t0 i1 i2 u s.1 s.2) N s0 = some r) (k1 : Rn l G iX6_takeNumber (d + 1) 57 [(0, rv (some t0)), (1, .int i1), (2, .int i2), (3, .int r)] [] u o u') : Rn l G iX6_takeNumber (d + 1) 23 [(0, rv (some t0)), (1, .int i1), (2, .int i2), (3, .int s0.1), (4, .int s0.2)] [] u o u' :=
  lp_run (P := fun s : Int32 × Int32 => Rn l G iX6_takeNumber (d + 1) 23 [(0, rv (some t0)), (1, .int i1), (2, .int i2), (3, .int s.1), (4, .int s.2)] [] u o u') (E := fun r => Rn l G iX6_takeNumber (d + 1) 57 [(0, rv (some t0)), (1, .int i1), (2, .int i2), (3, .int r)] [] u o u') (fun s y hy k0 kE => btX6_takeNumber_23 hy (fun s' e => k0 s' e) (fun r e => kE r e)) N s0 r h k1
theorem jtX6_takeNumber_67 {l : Launch} {G : Gt} {d : Nat} {t0 : Nat} {p3 : Int32} {u : Mem} {y : Int32 × Mem} (h : jX6_takeNumber_67 t0 p3 u = some y) : Rn l G iX6_takeNumber (d + 1) 67 [(0, rv (some t0)), (3, .int p3)] [] u (.returned (some (.int y.1))) y.2 := by
  unfold jX6_takeNumber_67 at h
  refine rn_aload_n (pc := 67) 0 dX6_takeNumber_67 rfl rfl ?_
  refine rn_iconst (pc := 68) (v := 2) dX6_takeNumber_68 (by decide) ?_
  obtain ⟨b13, hb13, h1⟩ := bnd_some h
  obtain ⟨qb13, kb13⟩ := chk_elim hb13
  cases qb13
  obtain ⟨u14, hu14, h2⟩ := bnd_some h1
  refine rn_callV (pc := 69) (n := 1) (As := [.int (2 : Int32)]) (rest := []) (eX6_setFault (d := d + 0) hu14) (by omega) okX6 kb13 tw_539 tw_70 tw_537 tw_538 tw_7 (by decide +kernel) rfl (Nat.le_of_ble_eq_true rfl) dX6_takeNumber_69 rfl ?_
  refine rn_iload_n (pc := 72) 1 dX6_takeNumber_72 rfl rfl ?_
  cases h2
  exact rn_iret (pc := 73) rfl dX6_takeNumber_73
theorem tX6_takeNumber {l : Launch} {G : Gt} {d : Nat} {t0 : Nat} {p1 : Int32} {p2 : Int32} {u : Mem} {y : Int32 × Mem} (h : fX6_takeNumber t0 p1 p2 u = some y) : Rn l G iX6_takeNumber (d + 1) 0 [(0, rv (some t0)), (1, .int p1), (2, .int p2)] [] u (.returned (some (.int y.1))) y.2 := by
  unfold fX6_takeNumber at h
  refine rn_aload_n (pc := 0) 0 dX6_takeNumber_0 rfl rfl ?_
  obtain ⟨v1, hv1, h1⟩ := bnd_some h
  refine rn_getI (pc := 1) (k := 4) okX6 (by decide) tw_180 rfl dX6_takeNumber_1 hv1 ?_
  refine rn_iconst (pc := 4) (v := 3) dX6_takeNumber_4 (by decide) ?_
  rcases if_elim h1 with ⟨c2, h2⟩ | ⟨c2, h2⟩
  · refine rn_ieq_t (pc := 5) (tgt := 15) dX6_takeNumber_5 (by decide) c2 ?_
    refine rn_iconst (pc := 15) (v := 0) dX6_takeNumber_15 (by decide) ?_
    refine rn_istore_n (pc := 16) (lv' := [(3, .int (0 : Int32)), (0, rv (some t0)), (1, .int p1), (2, .int p2)]) dX6_takeNumber_16 rfl (by decide) rfl ?_
    refine rn_aload_n (pc := 17) 1 dX6_takeNumber_17 rfl rfl ?_
    obtain ⟨v3, hv3, h3⟩ := bnd_some h2
    refine rn_getI (pc := 18) (k := 5) okX6 (by decide) tw_181 rfl dX6_takeNumber_18 hv3 ?_
    refine rn_istore (pc := 21) (lv' := [(4, .int v3), (3, .int (0 : Int32)), (0, rv (some t0)), (1, .int p1), (2, .int p2)]) dX6_takeNumber_21 (by decide) rfl ?_
    obtain ⟨r11, hr11, h4⟩ := bnd_some h3
    refine rn_sub [2, 3, 4, 1, 0] rfl (lX6_takeNumber_23 hr11 ?_)
    refine rn_iload_n (pc := 57) 3 dX6_takeNumber_57 rfl rfl ?_
    refine rn_iload_n (pc := 58) 1 dX6_takeNumber_58 rfl rfl ?_
    rcases if_elim h4 with ⟨c12, h5⟩ | ⟨c12, h5⟩
    · refine rn_ilt_t (pc := 59) (tgt := 67) dX6_takeNumber_59 (by decide) c12 ?_
      exact rn_sub [0, 3] rfl (jtX6_takeNumber_67 h5)
    · refine rn_ilt_f (pc := 59) 67 dX6_takeNumber_59 (by decide) c12 ?_
      refine rn_iload_n (pc := 62) 3 dX6_takeNumber_62 rfl rfl ?_
      refine rn_iload_n (pc := 63) 2 dX6_takeNumber_63 rfl rfl ?_
      rcases if_elim h5 with ⟨c15, h6⟩ | ⟨c15, h6⟩
      · refine rn_ile_f (pc := 64) 72 dX6_takeNumber_64 (by decide) c15 ?_
        exact rn_sub [0, 3] rfl (jtX6_takeNumber_67 h6)
      · refine rn_ile_t (pc := 64) (tgt := 72) dX6_takeNumber_64 (by decide) c15 ?_
        refine rn_iload_n (pc := 72) 3 dX6_takeNumber_72 rfl rfl ?_
        cases h6
        exact rn_iret (pc := 73) rfl dX6_takeNumber_73
  · refine rn_ieq_f (pc := 5) 15 dX6_takeNumber_5 (by decide) c2 ?_
    refine rn_aload_n (pc := 8) 0 dX6_takeNumber_8 rfl rfl ?_
    refine rn_iconst (pc := 9) (v := 1) dX6_takeNumber_9 (by decide) ?_
    obtain ⟨b16, hb16, h7⟩ := bnd_some h2
    obtain ⟨qb16, kb16⟩ := chk_elim hb16
    cases qb16
    obtain ⟨u17, hu17, h8⟩ := bnd_some h7
    refine rn_callV (pc := 10) (n := 1) (As := [.int (1 : Int32)]) (rest := []) (eX6_setFault (d := d + 0) hu17) (by omega) okX6 kb16 tw_539 tw_70 tw_537 tw_538 tw_7 (by decide +kernel) rfl (Nat.le_of_ble_eq_true rfl) dX6_takeNumber_10 rfl ?_
    refine rn_iload_n (pc := 13) 1 dX6_takeNumber_13 rfl rfl ?_
    cases h8
    exact rn_iret (pc := 14) rfl dX6_takeNumber_14
theorem eX6_takeNumber {l : Launch} {G : Gt} {d : Nat} {t0 : Nat} {p1 : Int32} {p2 : Int32} {u : Mem} {y : Int32 × Mem} (h : fX6_takeNumber t0 p1 p2 u = some y) : Ex l G iX6_takeNumber (d + 1) [rv (some t0), .int p1, .int p2] u (.returned (some (.int y.1))) y.2 := Ex.of (by decide +kernel) (by decide) (Nat.le_of_ble_eq_true rfl) rfl (tX6_takeNumber h)
theorem tX6_takeChoice {l : Launch} {G : Gt} {d : Nat} {t0 : Nat} {p1 : Option Nat} {p2 : Option Nat} {u : Mem} {y : Int32 × Mem} (h : fX6_takeChoice t0 p1 p2 u = some y) : Rn l G iX6_takeChoice (d + 5) 0 [(0, rv (some t0)), (1, rv p1), (2, rv p2)] [] u (.returned (some (.int y.1))) y.2 := by
  unfold fX6_takeChoice at h
  refine rn_aload_n (pc := 0) 0 dX6_takeChoice_0 rfl rfl ?_
  refine rn_aload_n (pc := 1) 2 dX6_takeChoice_1 rfl rfl ?_
  obtain ⟨b1, hb1, h1⟩ := bnd_some h
  obtain ⟨qb1, kb1⟩ := chk_elim hb1
  cases qb1
  obtain ⟨v2, hv2, h2⟩ := bnd_some h1
  refine rn_callV (pc := 2) (n := 1) (As := [rv p2]) (rest := []) (eX6_isWord (d := d + 0) hv2) (by omega) okX6 kb1 tw_493 tw_70 tw_491 tw_492 tw_6 (by decide +kernel) rfl (Nat.le_of_ble_eq_true rfl) dX6_takeChoice_2 rfl ?_
  rcases if_elim h2 with ⟨c3, h3⟩ | ⟨c3, h3⟩
  · refine rn_zeq_t (pc := 5) (tgt := 10) dX6_takeChoice_5 (by decide) c3 ?_
    refine rn_aload_n (pc := 10) 0 dX6_takeChoice_10 rfl rfl ?_
    refine rn_aload_n (pc := 11) 1 dX6_takeChoice_11 rfl rfl ?_
    obtain ⟨b4, hb4, h4⟩ := bnd_some h3
    obtain ⟨qb4, kb4⟩ := chk_elim hb4
    cases qb4
    obtain ⟨v5, hv5, h5⟩ := bnd_some h4
    refine rn_callV (pc := 12) (n := 1) (As := [rv p1]) (rest := []) (eX6_isWord (d := d + 0) hv5) (by omega) okX6 kb4 tw_493 tw_70 tw_491 tw_492 tw_6 (by decide +kernel) rfl (Nat.le_of_ble_eq_true rfl) dX6_takeChoice_12 rfl ?_
    rcases if_elim h5 with ⟨c6, h6⟩ | ⟨c6, h6⟩
    · refine rn_zne_f (pc := 15) 23 dX6_takeChoice_15 (by decide) c6 ?_
      refine rn_aload_n (pc := 18) 0 dX6_takeChoice_18 rfl rfl ?_
      refine rn_iconst (pc := 19) (v := 1) dX6_takeChoice_19 (by decide) ?_
      obtain ⟨b7, hb7, h7⟩ := bnd_some h6
      obtain ⟨qb7, kb7⟩ := chk_elim hb7
      cases qb7
      obtain ⟨u8, hu8, h8⟩ := bnd_some h7
      refine rn_callV (pc := 20) (n := 1) (As := [.int (1 : Int32)]) (rest := []) (eX6_setFault (d := d + 4) hu8) (by omega) okX6 kb7 tw_539 tw_70 tw_537 tw_538 tw_7 (by decide +kernel) rfl (Nat.le_of_ble_eq_true rfl) dX6_takeChoice_20 rfl ?_
      refine rn_iconst (pc := 23) (v := 0) dX6_takeChoice_23 (by decide) ?_
      cases h8
      exact rn_iret (pc := 24) rfl dX6_takeChoice_24
    · refine rn_zne_t (pc := 15) (tgt := 23) dX6_takeChoice_15 (by decide) c6 ?_
      refine rn_iconst (pc := 23) (v := 0) dX6_takeChoice_23 (by decide) ?_
      cases h6
      exact rn_iret (pc := 24) rfl dX6_takeChoice_24
  · refine rn_zeq_f (pc := 5) 10 dX6_takeChoice_5 (by decide) c3 ?_
    refine rn_iconst (pc := 8) (v := 1) dX6_takeChoice_8 (by decide) ?_
    cases h3
    exact rn_iret (pc := 9) rfl dX6_takeChoice_9
theorem eX6_takeChoice {l : Launch} {G : Gt} {d : Nat} {t0 : Nat} {p1 : Option Nat} {p2 : Option Nat} {u : Mem} {y : Int32 × Mem} (h : fX6_takeChoice t0 p1 p2 u = some y) : Ex l G iX6_takeChoice (d + 5) [rv (some t0), rv p1, rv p2] u (.returned (some (.int y.1))) y.2 := Ex.of (by decide +kernel) (by decide) (by cases p1 <;> cases p2 <;> exact Nat.le_of_ble_eq_true rfl) (by cases p1 <;> cases p2 <;> rfl) (tX6_takeChoice h)
theorem tX6_takeOfCopy {l : Launch} {G : Gt} {d : Nat} {t0 : Nat} {u : Mem} {y : Mem} (h : fX6_takeOfCopy t0 u = some y) : Rn l G iX6_takeOfCopy (d + 2) 0 [(0, rv (some t0))] [] u (.returned none) y := by
  unfold fX6_takeOfCopy at h
  refine rn_aload_n (pc := 0) 0 dX6_takeOfCopy_0 rfl rfl ?_
  obtain ⟨v1, hv1, h1⟩ := bnd_some h
  refine rn_getI (pc := 1) (k := 8) okX6 (by decide) tw_184 rfl dX6_takeOfCopy_1 hv1 ?_
  rcases if_elim h1 with ⟨c2, h2⟩ | ⟨c2, h2⟩
  · refine rn_zne_f (pc := 4) 24 dX6_takeOfCopy_4 (by decide) c2 ?_
    refine rn_aload_n (pc := 7) 0 dX6_takeOfCopy_7 rfl rfl ?_
    obtain ⟨v3, hv3, h3⟩ := bnd_some h2
    refine rn_getR (pc := 8) (k := 0) okX6 (by decide) tw_173 rfl dX6_takeOfCopy_8 hv3 ?_
    refine rn_aload_n (pc := 11) 0 dX6_takeOfCopy_11 rfl rfl ?_
    refine rn_iconst (pc := 12) (v := 1) dX6_takeOfCopy_12 (by decide) ?_
    refine rn_bipush (pc := 13) (v := 30) dX6_takeOfCopy_13 (by decide) ?_
    obtain ⟨b4, hb4, h4⟩ := bnd_some h3
    obtain ⟨qb4, kb4⟩ := chk_elim hb4
    cases qb4
    obtain ⟨v5, u6, hv5, h5⟩ := bnd2_some h4
    refine rn_callV (pc := 15) (n := 2) (As := [.int (1 : Int32), .int (30 : Int32)]) (rest := [rv v3]) (eX6_takeNumber (d := d + 0) hv5) (by omega) okX6 kb4 tw_548 tw_70 tw_546 tw_547 tw_9 (by decide +kernel) rfl (cat_le8 (Nat.le_of_ble_eq_true rfl)) dX6_takeOfCopy_15 rfl ?_
    obtain ⟨u7, hu7, h6⟩ := bnd_some h5
    refine rn_putI (pc := 18) (k := 4) okX7 (by decide) tw_148 (Or.inl rfl) (Or.inl rfl) dX6_takeOfCopy_18 hu7 ?_
    refine rn_goto (pc := 21) (tgt := 38) dX6_takeOfCopy_21 (by decide) ?_
    cases h6
    exact rn_vret (pc := 38) rfl dX6_takeOfCopy_38
  · refine rn_zne_t (pc := 4) (tgt := 24) dX6_takeOfCopy_4 (by decide) c2 ?_
    refine rn_aload_n (pc := 24) 0 dX6_takeOfCopy_24 rfl rfl ?_
    obtain ⟨v8, hv8, h7⟩ := bnd_some h2
    refine rn_getR (pc := 25) (k := 0) okX6 (by decide) tw_173 rfl dX6_takeOfCopy_25 hv8 ?_
    refine rn_aload_n (pc := 28) 0 dX6_takeOfCopy_28 rfl rfl ?_
    refine rn_iconst (pc := 29) (v := 1) dX6_takeOfCopy_29 (by decide) ?_
    refine rn_bipush (pc := 30) (v := 99) dX6_takeOfCopy_30 (by decide) ?_
    obtain ⟨b9, hb9, h8⟩ := bnd_some h7
    obtain ⟨qb9, kb9⟩ := chk_elim hb9
    cases qb9
    obtain ⟨v10, u11, hv10, h9⟩ := bnd2_some h8
    refine rn_callV (pc := 32) (n := 2) (As := [.int (1 : Int32), .int (99 : Int32)]) (rest := [rv v8]) (eX6_takeNumber (d := d + 0) hv10) (by omega) okX6 kb9 tw_548 tw_70 tw_546 tw_547 tw_9 (by decide +kernel) rfl (cat_le8 (Nat.le_of_ble_eq_true rfl)) dX6_takeOfCopy_32 rfl ?_
    obtain ⟨u12, hu12, h10⟩ := bnd_some h9
    refine rn_putI (pc := 35) (k := 5) okX7 (by decide) tw_152 (Or.inl rfl) (Or.inl rfl) dX6_takeOfCopy_35 hu12 ?_
    cases h10
    exact rn_vret (pc := 38) rfl dX6_takeOfCopy_38
theorem eX6_takeOfCopy {l : Launch} {G : Gt} {d : Nat} {t0 : Nat} {u : Mem} {y : Mem} (h : fX6_takeOfCopy t0 u = some y) : Ex l G iX6_takeOfCopy (d + 2) [rv (some t0)] u (.returned none) y := Ex.of (by decide +kernel) (by decide) (Nat.le_of_ble_eq_true rfl) rfl (tX6_takeOfCopy h)
theorem tX6_takeArgument {l : Launch} {G : Gt} {d : Nat} {t0 : Nat} {u : Mem} {y : Mem} (h : fX6_takeArgument t0 u = some y) : Rn l G iX6_takeArgument (d + 6) 0 [(0, rv (some t0))] [] u (.returned none) y := by
  unfold fX6_takeArgument at h
  refine rn_aload_n (pc := 0) 0 dX6_takeArgument_0 rfl rfl ?_
  obtain ⟨v1, hv1, h1⟩ := bnd_some h
  refine rn_getI (pc := 1) (k := 7) okX6 (by decide) tw_183 rfl dX6_takeArgument_1 hv1 ?_
  rcases if_elim h1 with ⟨c2, h2⟩ | ⟨c2, h2⟩
  · refine rn_tsw_in (pc := 4) (tgt := 40) (off := 36) 0 dX6_takeArgument_4 c2 (by decide) (by decide) ?_
    refine rn_aload_n (pc := 40) 0 dX6_takeArgument_40 rfl rfl ?_
    obtain ⟨v3, hv3, h3⟩ := bnd_some h2
    refine rn_getR (pc := 41) (k := 0) okX6 (by decide) tw_173 rfl dX6_takeArgument_41 hv3 ?_
    obtain ⟨v4, hv4, h4⟩ := bnd_some h3
    refine rn_getR (pc := 44) (k := 0) okX7 (by decide) tw_133 rfl dX6_takeArgument_44 hv4 ?_
    refine rn_aload_n (pc := 47) 0 dX6_takeArgument_47 rfl rfl ?_
    obtain ⟨v5, hv5, h5⟩ := bnd_some h4
    refine rn_getI (pc := 48) (k := 8) okX6 (by decide) tw_184 rfl dX6_takeArgument_48 hv5 ?_
    refine rn_aload_n (pc := 51) 0 dX6_takeArgument_51 rfl rfl ?_
    refine rn_iconst (pc := 52) (v := 0) dX6_takeArgument_52 (by decide) ?_
    refine rn_sipush (pc := 53) (v := 1000) dX6_takeArgument_53 (by decide) ?_
    obtain ⟨b6, hb6, h6⟩ := bnd_some h5
    obtain ⟨qb6, kb6⟩ := chk_elim hb6
    cases qb6
    obtain ⟨v7, u8, hv7, h7⟩ := bnd2_some h6
    refine rn_callV (pc := 56) (n := 2) (As := [.int (0 : Int32), .int (1000 : Int32)]) (rest := [.int v5, rv v4]) (eX6_takeNumber (d := d + 4) hv7) (by omega) okX6 kb6 tw_548 tw_70 tw_546 tw_547 tw_9 (by decide +kernel) rfl (cat_le8 (Nat.le_of_ble_eq_true rfl)) dX6_takeArgument_56 rfl ?_
    obtain ⟨u9, hu9, h8⟩ := bnd_some h7
    refine rn_iast (pc := 59) dX6_takeArgument_59 hu9 ?_
    refine rn_goto (pc := 60) (tgt := 143) dX6_takeArgument_60 (by decide) ?_
    cases h8
    exact rn_vret (pc := 143) rfl dX6_takeArgument_143
  · skip
    rcases if_elim h2 with ⟨c10, h9⟩ | ⟨c10, h9⟩
    · refine rn_tsw_in (pc := 4) (tgt := 63) (off := 59) 1 dX6_takeArgument_4 c10 (by decide) (by decide) ?_
      refine rn_aload_n (pc := 63) 0 dX6_takeArgument_63 rfl rfl ?_
      obtain ⟨v11, hv11, h10⟩ := bnd_some h9
      refine rn_getR (pc := 64) (k := 0) okX6 (by decide) tw_173 rfl dX6_takeArgument_64 hv11 ?_
      obtain ⟨v12, hv12, h11⟩ := bnd_some h10
      refine rn_getR (pc := 67) (k := 1) okX7 (by decide) tw_137 rfl dX6_takeArgument_67 hv12 ?_
      refine rn_aload_n (pc := 70) 0 dX6_takeArgument_70 rfl rfl ?_
      obtain ⟨v13, hv13, h12⟩ := bnd_some h11
      refine rn_getI (pc := 71) (k := 8) okX6 (by decide) tw_184 rfl dX6_takeArgument_71 hv13 ?_
      refine rn_aload_n (pc := 74) 0 dX6_takeArgument_74 rfl rfl ?_
      refine rn_iconst (pc := 75) (v := 0) dX6_takeArgument_75 (by decide) ?_
      refine rn_sipush (pc := 76) (v := 1000) dX6_takeArgument_76 (by decide) ?_
      obtain ⟨b14, hb14, h13⟩ := bnd_some h12
      obtain ⟨qb14, kb14⟩ := chk_elim hb14
      cases qb14
      obtain ⟨v15, u16, hv15, h14⟩ := bnd2_some h13
      refine rn_callV (pc := 79) (n := 2) (As := [.int (0 : Int32), .int (1000 : Int32)]) (rest := [.int v13, rv v12]) (eX6_takeNumber (d := d + 4) hv15) (by omega) okX6 kb14 tw_548 tw_70 tw_546 tw_547 tw_9 (by decide +kernel) rfl (cat_le8 (Nat.le_of_ble_eq_true rfl)) dX6_takeArgument_79 rfl ?_
      obtain ⟨u17, hu17, h15⟩ := bnd_some h14
      refine rn_iast (pc := 82) dX6_takeArgument_82 hu17 ?_
      refine rn_goto (pc := 83) (tgt := 143) dX6_takeArgument_83 (by decide) ?_
      cases h15
      exact rn_vret (pc := 143) rfl dX6_takeArgument_143
    · skip
      rcases if_elim h9 with ⟨c18, h16⟩ | ⟨c18, h16⟩
      · refine rn_tsw_in (pc := 4) (tgt := 86) (off := 82) 2 dX6_takeArgument_4 c18 (by decide) (by decide) ?_
        refine rn_aload_n (pc := 86) 0 dX6_takeArgument_86 rfl rfl ?_
        obtain ⟨v19, hv19, h17⟩ := bnd_some h16
        refine rn_getR (pc := 87) (k := 0) okX6 (by decide) tw_173 rfl dX6_takeArgument_87 hv19 ?_
        refine rn_aload_n (pc := 90) 0 dX6_takeArgument_90 rfl rfl ?_
        refine rn_ldcR (pc := 91) 6 (by decide) rfl rfl dX6_takeArgument_91 ?_
        refine rn_ldcR (pc := 93) 7 (by decide) rfl rfl dX6_takeArgument_93 ?_
        obtain ⟨b20, hb20, h18⟩ := bnd_some h17
        obtain ⟨qb20, kb20⟩ := chk_elim hb20
        cases qb20
        obtain ⟨v21, u22, hv21, h19⟩ := bnd2_some h18
        refine rn_callV (pc := 95) (n := 2) (As := [rv (some 1000006), rv (some 1000007)]) (rest := [rv v19]) (eX6_takeChoice (d := d + 0) hv21) (by omega) okX6 kb20 tw_551 tw_70 tw_549 tw_550 tw_10 (by decide +kernel) rfl (cat_le8 (Nat.le_of_ble_eq_true rfl)) dX6_takeArgument_95 rfl ?_
        obtain ⟨u23, hu23, h20⟩ := bnd_some h19
        refine rn_putI (pc := 98) (k := 2) okX7 (by decide) tw_141 (Or.inl rfl) (Or.inl rfl) dX6_takeArgument_98 hu23 ?_
        refine rn_goto (pc := 101) (tgt := 143) dX6_takeArgument_101 (by decide) ?_
        cases h20
        exact rn_vret (pc := 143) rfl dX6_takeArgument_143
      · skip
        rcases if_elim h16 with ⟨c24, h21⟩ | ⟨c24, h21⟩
        · refine rn_tsw_in (pc := 4) (tgt := 104) (off := 100) 3 dX6_takeArgument_4 c24 (by decide) (by decide) ?_
          refine rn_aload_n (pc := 104) 0 dX6_takeArgument_104 rfl rfl ?_
          obtain ⟨v25, hv25, h22⟩ := bnd_some h21
          refine rn_getR (pc := 105) (k := 0) okX6 (by decide) tw_173 rfl dX6_takeArgument_105 hv25 ?_
          refine rn_aload_n (pc := 108) 0 dX6_takeArgument_108 rfl rfl ?_
          refine rn_ldcR (pc := 109) 8 (by decide) rfl rfl dX6_takeArgument_109 ?_
          refine rn_ldcR (pc := 111) 9 (by decide) rfl rfl dX6_takeArgument_111 ?_
          obtain ⟨b26, hb26, h23⟩ := bnd_some h22
          obtain ⟨qb26, kb26⟩ := chk_elim hb26
          cases qb26
          obtain ⟨v27, u28, hv27, h24⟩ := bnd2_some h23
          refine rn_callV (pc := 113) (n := 2) (As := [rv (some 1000008), rv (some 1000009)]) (rest := [rv v25]) (eX6_takeChoice (d := d + 0) hv27) (by omega) okX6 kb26 tw_551 tw_70 tw_549 tw_550 tw_10 (by decide +kernel) rfl (cat_le8 (Nat.le_of_ble_eq_true rfl)) dX6_takeArgument_113 rfl ?_
          obtain ⟨u29, hu29, h25⟩ := bnd_some h24
          refine rn_putI (pc := 116) (k := 3) okX7 (by decide) tw_144 (Or.inl rfl) (Or.inl rfl) dX6_takeArgument_116 hu29 ?_
          refine rn_goto (pc := 119) (tgt := 143) dX6_takeArgument_119 (by decide) ?_
          cases h25
          exact rn_vret (pc := 143) rfl dX6_takeArgument_143
        · skip
          rcases if_elim h21 with ⟨c30, h26⟩ | ⟨c30, h26⟩
          · refine rn_tsw_in (pc := 4) (tgt := 122) (off := 118) 4 dX6_takeArgument_4 c30 (by decide) (by decide) ?_
            refine rn_aload_n (pc := 122) 0 dX6_takeArgument_122 rfl rfl ?_
            obtain ⟨b31, hb31, h27⟩ := bnd_some h26
            obtain ⟨qb31, kb31⟩ := chk_elim hb31
            cases qb31
            obtain ⟨u32, hu32, h28⟩ := bnd_some h27
            refine rn_callV (pc := 123) (n := 0) (As := []) (rest := []) (eX6_takeOfCopy (d := d + 3) hu32) (by omega) okX6 kb31 tw_554 tw_70 tw_552 tw_553 tw_11 (by decide +kernel) rfl (Nat.le_of_ble_eq_true rfl) dX6_takeArgument_123 rfl ?_
            refine rn_goto (pc := 126) (tgt := 143) dX6_takeArgument_126 (by decide) ?_
            cases h28
            exact rn_vret (pc := 143) rfl dX6_takeArgument_143
          · skip
            refine rn_tsw_out (pc := 4) (tgt := 129) dX6_takeArgument_4 (sw_out (n := 4) (lt_s (lt_s (lt_s (lt_s (lt_s (lt_0) c2) c10) c18) c24) c30)) (by decide) ?_
            refine rn_aload_n (pc := 129) 0 dX6_takeArgument_129 rfl rfl ?_
            obtain ⟨v33, hv33, h29⟩ := bnd_some h26
            refine rn_getR (pc := 130) (k := 0) okX6 (by decide) tw_173 rfl dX6_takeArgument_130 hv33 ?_
            refine rn_aload_n (pc := 133) 0 dX6_takeArgument_133 rfl rfl ?_
            refine rn_iconst (pc := 134) (v := 1) dX6_takeArgument_134 (by decide) ?_
            refine rn_bipush (pc := 135) (v := 99) dX6_takeArgument_135 (by decide) ?_
            obtain ⟨b34, hb34, h30⟩ := bnd_some h29
            obtain ⟨qb34, kb34⟩ := chk_elim hb34
            cases qb34
            obtain ⟨v35, u36, hv35, h31⟩ := bnd2_some h30
            refine rn_callV (pc := 137) (n := 2) (As := [.int (1 : Int32), .int (99 : Int32)]) (rest := [rv v33]) (eX6_takeNumber (d := d + 4) hv35) (by omega) okX6 kb34 tw_548 tw_70 tw_546 tw_547 tw_9 (by decide +kernel) rfl (cat_le8 (Nat.le_of_ble_eq_true rfl)) dX6_takeArgument_137 rfl ?_
            obtain ⟨u37, hu37, h32⟩ := bnd_some h31
            refine rn_putI (pc := 140) (k := 6) okX7 (by decide) tw_156 (Or.inl rfl) (Or.inl rfl) dX6_takeArgument_140 hu37 ?_
            cases h32
            exact rn_vret (pc := 143) rfl dX6_takeArgument_143
theorem eX6_takeArgument {l : Launch} {G : Gt} {d : Nat} {t0 : Nat} {u : Mem} {y : Mem} (h : fX6_takeArgument t0 u = some y) : Ex l G iX6_takeArgument (d + 6) [rv (some t0)] u (.returned none) y := Ex.of (by decide +kernel) (by decide) (Nat.le_of_ble_eq_true rfl) rfl (tX6_takeArgument h)
theorem tX6_takeToken {l : Launch} {G : Gt} {d : Nat} {t0 : Nat} {u : Mem} {y : Mem} (h : fX6_takeToken t0 u = some y) : Rn l G iX6_takeToken (d + 7) 0 [(0, rv (some t0))] [] u (.returned none) y := by
  unfold fX6_takeToken at h
  refine rn_aload_n (pc := 0) 0 dX6_takeToken_0 rfl rfl ?_
  obtain ⟨v1, hv1, h1⟩ := bnd_some h
  refine rn_getI (pc := 1) (k := 7) okX6 (by decide) tw_183 rfl dX6_takeToken_1 hv1 ?_
  refine rn_iconst (pc := 4) (v := -1) dX6_takeToken_4 (by decide) ?_
  rcases if_elim h1 with ⟨c2, h2⟩ | ⟨c2, h2⟩
  · refine rn_ine_f (pc := 5) 15 dX6_takeToken_5 (by decide) c2 ?_
    refine rn_aload_n (pc := 8) 0 dX6_takeToken_8 rfl rfl ?_
    obtain ⟨b3, hb3, h3⟩ := bnd_some h2
    obtain ⟨qb3, kb3⟩ := chk_elim hb3
    cases qb3
    obtain ⟨u4, hu4, h4⟩ := bnd_some h3
    refine rn_callV (pc := 9) (n := 0) (As := []) (rest := []) (eX6_startLine (d := d + 0) hu4) (by omega) okX6 kb3 tw_487 tw_70 tw_485 tw_486 tw_4 (by decide +kernel) rfl (Nat.le_of_ble_eq_true rfl) dX6_takeToken_9 rfl ?_
    refine rn_goto (pc := 12) (tgt := 77) dX6_takeToken_12 (by decide) ?_
    cases h4
    exact rn_vret (pc := 77) rfl dX6_takeToken_77
  · refine rn_ine_t (pc := 5) (tgt := 15) dX6_takeToken_5 (by decide) c2 ?_
    refine rn_aload_n (pc := 15) 0 dX6_takeToken_15 rfl rfl ?_
    obtain ⟨v5, hv5, h5⟩ := bnd_some h2
    refine rn_getI (pc := 16) (k := 8) okX6 (by decide) tw_184 rfl dX6_takeToken_16 hv5 ?_
    refine rn_aload_n (pc := 19) 0 dX6_takeToken_19 rfl rfl ?_
    obtain ⟨v6, hv6, h6⟩ := bnd_some h5
    refine rn_getI (pc := 20) (k := 7) okX6 (by decide) tw_183 rfl dX6_takeToken_20 hv6 ?_
    obtain ⟨v7, hv7, h7⟩ := bnd_some h6
    refine rn_callS (pc := 23) (n := 1) (As := [.int v6]) (rest := [.int v5]) (eX6_tokensBehind (d := d + 6) hv7) (by omega) tw_542 tw_70 tw_540 tw_541 (by decide +kernel) rfl (Nat.le_of_ble_eq_true rfl) dX6_takeToken_23 rfl ?_
    rcases if_elim h7 with ⟨c8, h8⟩ | ⟨c8, h8⟩
    · refine rn_ige_f (pc := 26) 46 dX6_takeToken_26 (by decide) c8 ?_
      refine rn_aload_n (pc := 29) 0 dX6_takeToken_29 rfl rfl ?_
      obtain ⟨b9, hb9, h9⟩ := bnd_some h8
      obtain ⟨qb9, kb9⟩ := chk_elim hb9
      cases qb9
      obtain ⟨u10, hu10, h10⟩ := bnd_some h9
      refine rn_callV (pc := 30) (n := 0) (As := []) (rest := []) (eX6_takeArgument (d := d + 0) hu10) (by omega) okX6 kb9 tw_545 tw_70 tw_543 tw_544 tw_8 (by decide +kernel) rfl (Nat.le_of_ble_eq_true rfl) dX6_takeToken_30 rfl ?_
      refine rn_aload_n (pc := 33) 0 dX6_takeToken_33 rfl rfl ?_
      refine rn_dup (pc := 34) dX6_takeToken_34 (rv_cat _) ?_
      obtain ⟨v11, hv11, h11⟩ := bnd_some h10
      refine rn_getI (pc := 35) (k := 8) okX6 (by decide) tw_184 rfl dX6_takeToken_35 hv11 ?_
      refine rn_iconst (pc := 38) (v := 1) dX6_takeToken_38 (by decide) ?_
      refine rn_iadd (pc := 39) dX6_takeToken_39 ?_
      obtain ⟨u12, hu12, h12⟩ := bnd_some h11
      refine rn_putI (pc := 40) (k := 8) okX6 (by decide) tw_184 (Or.inl rfl) (Or.inl rfl) dX6_takeToken_40 hu12 ?_
      refine rn_goto (pc := 43) (tgt := 77) dX6_takeToken_43 (by decide) ?_
      cases h12
      exact rn_vret (pc := 77) rfl dX6_takeToken_77
    · refine rn_ige_t (pc := 26) (tgt := 46) dX6_takeToken_26 (by decide) c8 ?_
      refine rn_aload_n (pc := 46) 0 dX6_takeToken_46 rfl rfl ?_
      obtain ⟨v13, hv13, h13⟩ := bnd_some h8
      refine rn_getI (pc := 47) (k := 4) okX6 (by decide) tw_180 rfl dX6_takeToken_47 hv13 ?_
      refine rn_iconst (pc := 50) (v := 4) dX6_takeToken_50 (by decide) ?_
      rcases if_elim h13 with ⟨c14, h14⟩ | ⟨c14, h14⟩
      · refine rn_ine_f (pc := 51) 72 dX6_takeToken_51 (by decide) c14 ?_
        refine rn_aload_n (pc := 54) 0 dX6_takeToken_54 rfl rfl ?_
        refine rn_dup (pc := 55) dX6_takeToken_55 (rv_cat _) ?_
        obtain ⟨v15, hv15, h15⟩ := bnd_some h14
        refine rn_getI (pc := 56) (k := 9) okX6 (by decide) tw_185 rfl dX6_takeToken_56 hv15 ?_
        refine rn_iconst (pc := 59) (v := 1) dX6_takeToken_59 (by decide) ?_
        refine rn_iadd (pc := 60) dX6_takeToken_60 ?_
        obtain ⟨u16, hu16, h16⟩ := bnd_some h15
        refine rn_putI (pc := 61) (k := 9) okX6 (by decide) tw_185 (Or.inl rfl) (Or.inl rfl) dX6_takeToken_61 hu16 ?_
        refine rn_aload_n (pc := 64) 0 dX6_takeToken_64 rfl rfl ?_
        refine rn_iconst (pc := 65) (v := -1) dX6_takeToken_65 (by decide) ?_
        obtain ⟨u17, hu17, h17⟩ := bnd_some h16
        refine rn_putI (pc := 66) (k := 7) okX6 (by decide) tw_183 (Or.inl rfl) (Or.inl rfl) dX6_takeToken_66 hu17 ?_
        refine rn_goto (pc := 69) (tgt := 77) dX6_takeToken_69 (by decide) ?_
        cases h17
        exact rn_vret (pc := 77) rfl dX6_takeToken_77
      · refine rn_ine_t (pc := 51) (tgt := 72) dX6_takeToken_51 (by decide) c14 ?_
        refine rn_aload_n (pc := 72) 0 dX6_takeToken_72 rfl rfl ?_
        refine rn_iconst (pc := 73) (v := 1) dX6_takeToken_73 (by decide) ?_
        obtain ⟨b18, hb18, h18⟩ := bnd_some h14
        obtain ⟨qb18, kb18⟩ := chk_elim hb18
        cases qb18
        obtain ⟨u19, hu19, h19⟩ := bnd_some h18
        refine rn_callV (pc := 74) (n := 1) (As := [.int (1 : Int32)]) (rest := []) (eX6_setFault (d := d + 6) hu19) (by omega) okX6 kb18 tw_539 tw_70 tw_537 tw_538 tw_7 (by decide +kernel) rfl (Nat.le_of_ble_eq_true rfl) dX6_takeToken_74 rfl ?_
        cases h19
        exact rn_vret (pc := 77) rfl dX6_takeToken_77
theorem eX6_takeToken {l : Launch} {G : Gt} {d : Nat} {t0 : Nat} {u : Mem} {y : Mem} (h : fX6_takeToken t0 u = some y) : Ex l G iX6_takeToken (d + 7) [rv (some t0)] u (.returned none) y := Ex.of (by decide +kernel) (by decide) (Nat.le_of_ble_eq_true rfl) rfl (tX6_takeToken h)
theorem btX6_readText_6 {l : Launch} {G : Gt} {d : Nat} {t0 : Nat} {s1 : Int32} {u : Mem} {y : (Int32 × Mem) ⊕ (Mem)} {o : Outcome} {u' : Mem} (h : bX6_readText_6 t0 s1 u = some y) (k0 : ∀ s' : Int32 × Mem, y = .inl s' → Rn l G iX6_readText (d + 8) 6 [(0, rv (some t0)), (1, .int s'.1)] [] s'.2 o u') (k1 : ∀ r : Mem, y = .inr (r) → Rn l G iX6_readText (d + 8) 34 [(0, rv (some t0))] [] r o u') : Rn l G iX6_readText (d + 8) 6 [(0, rv (some t0)), (1, .int s1)] [] u o u' := by
  unfold bX6_readText_6 at h
  refine rn_iload_n (pc := 6) 1 dX6_readText_6 rfl rfl ?_
  refine rn_sipush (pc := 7) (v := 500) dX6_readText_7 (by decide) ?_
  rcases if_elim h with ⟨c3, h1⟩ | ⟨c3, h1⟩
  · refine rn_igt_t (pc := 10) (tgt := 34) dX6_readText_10 (by decide) c3 ?_
    cases h1
    exact rn_sub [0] rfl (k1 _ rfl)
  · refine rn_igt_f (pc := 10) 34 dX6_readText_10 (by decide) c3 ?_
    refine rn_aload_n (pc := 13) 0 dX6_readText_13 rfl rfl ?_
    obtain ⟨v4, hv4, h2⟩ := bnd_some h1
    refine rn_getI (pc := 14) (k := 11) okX6 (by decide) tw_187 rfl dX6_readText_14 hv4 ?_
    rcases if_elim h2 with ⟨c5, h3⟩ | ⟨c5, h3⟩
    · refine rn_zne_f (pc := 17) 34 dX6_readText_17 (by decide) c5 ?_
      refine rn_aload_n (pc := 20) 0 dX6_readText_20 rfl rfl ?_
      obtain ⟨b6, hb6, h4⟩ := bnd_some h3
      obtain ⟨qb6, kb6⟩ := chk_elim hb6
      cases qb6
      obtain ⟨u7, hu7, h5⟩ := bnd_some h4
      refine rn_callV (pc := 21) (n := 0) (As := []) (rest := []) (eX6_readToken (d := d + 6) hu7) (by omega) okX6 kb6 tw_478 tw_70 tw_476 tw_477 tw_1 (by decide +kernel) rfl (Nat.le_of_ble_eq_true rfl) dX6_readText_21 rfl ?_
      refine rn_aload_n (pc := 24) 0 dX6_readText_24 rfl rfl ?_
      obtain ⟨b8, hb8, h6⟩ := bnd_some h5
      obtain ⟨qb8, kb8⟩ := chk_elim hb8
      cases qb8
      obtain ⟨u9, hu9, h7⟩ := bnd_some h6
      refine rn_callV (pc := 25) (n := 0) (As := []) (rest := []) (eX6_takeToken (d := d + 0) hu9) (by omega) okX6 kb8 tw_484 tw_70 tw_482 tw_483 tw_3 (by decide +kernel) rfl (Nat.le_of_ble_eq_true rfl) dX6_readText_25 rfl ?_
      obtain ⟨x10, ex10, h8⟩ := nm_elim h7
      refine rn_iinc (pc := 28) (v := x10) (lv' := [(1, .int x10), (0, rv (some t0))]) 1 dX6_readText_28 rfl (by rw [ex10]; rfl) (by decide) rfl ?_
      refine rn_goto (pc := 31) (tgt := 6) dX6_readText_31 (by decide) ?_
      cases h8
      exact rn_sub [1, 0] rfl (k0 _ rfl)
    · refine rn_zne_t (pc := 17) (tgt := 34) dX6_readText_17 (by decide) c5 ?_
      cases h3
      exact rn_sub [0] rfl (k1 _ rfl)
theorem lX6_readText_6 {l : Launch} {G : Gt} {d : Nat} {t0 : Nat} {N : Nat} {s0 : Int32 × Mem} {r : Mem} {o : Outcome} {u' : Mem} (h : lp (fun s : Int32 × Mem => bX6_readText_6 t0 s.1 s.2) N s0 = some r) (k1 : Rn l G iX6_readText (d + 8) 34 [(0, rv (some t0))] [] r o u') : Rn l G iX6_readText (d + 8) 6 [(0, rv (some t0)), (1, .int s0.1)] [] s0.2 o u' :=
  lp_run (P := fun s : Int32 × Mem => Rn l G iX6_readText (d + 8) 6 [(0, rv (some t0)), (1, .int s.1)] [] s.2 o u') (E := fun r => Rn l G iX6_readText (d + 8) 34 [(0, rv (some t0))] [] r o u') (fun s y hy k0 kE => btX6_readText_6 hy (fun s' e => k0 s' e) (fun r e => kE r e)) N s0 r h k1
theorem jtX6_readText_34 {l : Launch} {G : Gt} {d : Nat} {t0 : Nat} {u : Mem} {y : Int32 × Mem} (h : jX6_readText_34 t0 u = some y) : Rn l G iX6_readText (d + 8) 34 [(0, rv (some t0))] [] u (.returned (some (.int y.1))) y.2 := by
  unfold jX6_readText_34 at h
  refine rn_aload_n (pc := 34) 0 dX6_readText_34 rfl rfl ?_
  obtain ⟨v12, hv12, h1⟩ := bnd_some h
  refine rn_getI (pc := 35) (k := 1) okX6 (by decide) tw_175 rfl dX6_readText_35 hv12 ?_
  rcases if_elim h1 with ⟨c13, h2⟩ | ⟨c13, h2⟩
  · refine rn_zne_f (pc := 38) 48 dX6_readText_38 (by decide) c13 ?_
    refine rn_aload_n (pc := 41) 0 dX6_readText_41 rfl rfl ?_
    obtain ⟨v14, hv14, h3⟩ := bnd_some h2
    refine rn_getI (pc := 42) (k := 9) okX6 (by decide) tw_185 rfl dX6_readText_42 hv14 ?_
    refine rn_goto (pc := 45) (tgt := 49) dX6_readText_45 (by decide) ?_
    cases h3
    exact rn_iret (pc := 49) rfl dX6_readText_49
  · refine rn_zne_t (pc := 38) (tgt := 48) dX6_readText_38 (by decide) c13 ?_
    refine rn_iconst (pc := 48) (v := -1) dX6_readText_48 (by decide) ?_
    cases h2
    exact rn_iret (pc := 49) rfl dX6_readText_49
theorem tX6_readText {l : Launch} {G : Gt} {d : Nat} {t0 : Nat} {u : Mem} {y : Int32 × Mem} (h : fX6_readText t0 u = some y) : Rn l G iX6_readText (d + 8) 0 [(0, rv (some t0))] [] u (.returned (some (.int y.1))) y.2 := by
  unfold fX6_readText at h
  refine rn_aload_n (pc := 0) 0 dX6_readText_0 rfl rfl ?_
  obtain ⟨b1, hb1, h1⟩ := bnd_some h
  obtain ⟨qb1, kb1⟩ := chk_elim hb1
  cases qb1
  obtain ⟨u2, hu2, h2⟩ := bnd_some h1
  refine rn_callV (pc := 1) (n := 0) (As := []) (rest := []) (eX6_begin (d := d + 6) hu2) (by omega) okX6 kb1 tw_474 tw_70 tw_472 tw_473 tw_0 (by decide +kernel) rfl (Nat.le_of_ble_eq_true rfl) dX6_readText_1 rfl ?_
  refine rn_iconst (pc := 4) (v := 0) dX6_readText_4 (by decide) ?_
  refine rn_istore_n (pc := 5) (lv' := [(1, .int (0 : Int32)), (0, rv (some t0))]) dX6_readText_5 rfl (by decide) rfl ?_
  obtain ⟨r11, hr11, h3⟩ := bnd_some h2
  refine rn_sub [1, 0] rfl (lX6_readText_6 hr11 ?_)
  exact rn_sub [0] rfl (jtX6_readText_34 h3)
theorem eX6_readText {l : Launch} {G : Gt} {d : Nat} {t0 : Nat} {u : Mem} {y : Int32 × Mem} (h : fX6_readText t0 u = some y) : Ex l G iX6_readText (d + 8) [rv (some t0)] u (.returned (some (.int y.1))) y.2 := Ex.of (by decide +kernel) (by decide) (Nat.le_of_ble_eq_true rfl) rfl (tX6_readText h)
theorem tX7_copyFrom {l : Launch} {G : Gt} {d : Nat} {t0 : Nat} {p1 : Option Nat} {u : Mem} {y : Mem} (h : fX7_copyFrom t0 p1 u = some y) : Rn l G iX7_copyFrom (d + 1) 0 [(0, rv (some t0)), (1, rv p1)] [] u (.returned none) y := by
  unfold fX7_copyFrom at h
  refine rn_aload_n (pc := 0) 1 dX7_copyFrom_0 rfl rfl ?_
  obtain ⟨v1, hv1, h1⟩ := bnd_some h
  refine rn_getR (pc := 1) (k := 0) okX7 (by decide) tw_131 rfl dX7_copyFrom_1 hv1 ?_
  refine rn_iconst (pc := 4) (v := 0) dX7_copyFrom_4 (by decide) ?_
  refine rn_aload_n (pc := 5) 0 dX7_copyFrom_5 rfl rfl ?_
  obtain ⟨v2, hv2, h2⟩ := bnd_some h1
  refine rn_getR (pc := 6) (k := 0) okX7 (by decide) tw_131 rfl dX7_copyFrom_6 hv2 ?_
  refine rn_iconst (pc := 9) (v := 0) dX7_copyFrom_9 (by decide) ?_
  refine rn_bipush (pc := 10) (v := 11) dX7_copyFrom_10 (by decide) ?_
  obtain ⟨u3, hu3, h3⟩ := bnd_some h2
  refine rn_copy (pc := 12) (rest := []) (by omega) tw_559 (cat_le8 (Nat.le_of_ble_eq_true rfl)) dX7_copyFrom_12 hu3 ?_
  refine rn_aload_n (pc := 15) 1 dX7_copyFrom_15 rfl rfl ?_
  obtain ⟨v4, hv4, h4⟩ := bnd_some h3
  refine rn_getR (pc := 16) (k := 1) okX7 (by decide) tw_135 rfl dX7_copyFrom_16 hv4 ?_
  refine rn_iconst (pc := 19) (v := 0) dX7_copyFrom_19 (by decide) ?_
  refine rn_aload_n (pc := 20) 0 dX7_copyFrom_20 rfl rfl ?_
  obtain ⟨v5, hv5, h5⟩ := bnd_some h4
  refine rn_getR (pc := 21) (k := 1) okX7 (by decide) tw_135 rfl dX7_copyFrom_21 hv5 ?_
  refine rn_iconst (pc := 24) (v := 0) dX7_copyFrom_24 (by decide) ?_
  refine rn_bipush (pc := 25) (v := 11) dX7_copyFrom_25 (by decide) ?_
  obtain ⟨u6, hu6, h6⟩ := bnd_some h5
  refine rn_copy (pc := 27) (rest := []) (by omega) tw_559 (cat_le8 (Nat.le_of_ble_eq_true rfl)) dX7_copyFrom_27 hu6 ?_
  refine rn_aload_n (pc := 30) 0 dX7_copyFrom_30 rfl rfl ?_
  refine rn_aload_n (pc := 31) 1 dX7_copyFrom_31 rfl rfl ?_
  obtain ⟨v7, hv7, h7⟩ := bnd_some h6
  refine rn_getI (pc := 32) (k := 2) okX7 (by decide) tw_139 rfl dX7_copyFrom_32 hv7 ?_
  obtain ⟨u8, hu8, h8⟩ := bnd_some h7
  refine rn_putI (pc := 35) (k := 2) okX7 (by decide) tw_139 (Or.inl rfl) (Or.inl rfl) dX7_copyFrom_35 hu8 ?_
  refine rn_aload_n (pc := 38) 0 dX7_copyFrom_38 rfl rfl ?_
  refine rn_aload_n (pc := 39) 1 dX7_copyFrom_39 rfl rfl ?_
  obtain ⟨v9, hv9, h9⟩ := bnd_some h8
  refine rn_getI (pc := 40) (k := 3) okX7 (by decide) tw_142 rfl dX7_copyFrom_40 hv9 ?_
  obtain ⟨u10, hu10, h10⟩ := bnd_some h9
  refine rn_putI (pc := 43) (k := 3) okX7 (by decide) tw_142 (Or.inl rfl) (Or.inl rfl) dX7_copyFrom_43 hu10 ?_
  refine rn_aload_n (pc := 46) 0 dX7_copyFrom_46 rfl rfl ?_
  refine rn_aload_n (pc := 47) 1 dX7_copyFrom_47 rfl rfl ?_
  obtain ⟨v11, hv11, h11⟩ := bnd_some h10
  refine rn_getI (pc := 48) (k := 4) okX7 (by decide) tw_145 rfl dX7_copyFrom_48 hv11 ?_
  obtain ⟨u12, hu12, h12⟩ := bnd_some h11
  refine rn_putI (pc := 51) (k := 4) okX7 (by decide) tw_145 (Or.inl rfl) (Or.inl rfl) dX7_copyFrom_51 hu12 ?_
  refine rn_aload_n (pc := 54) 0 dX7_copyFrom_54 rfl rfl ?_
  refine rn_aload_n (pc := 55) 1 dX7_copyFrom_55 rfl rfl ?_
  obtain ⟨v13, hv13, h13⟩ := bnd_some h12
  refine rn_getI (pc := 56) (k := 5) okX7 (by decide) tw_149 rfl dX7_copyFrom_56 hv13 ?_
  obtain ⟨u14, hu14, h14⟩ := bnd_some h13
  refine rn_putI (pc := 59) (k := 5) okX7 (by decide) tw_149 (Or.inl rfl) (Or.inl rfl) dX7_copyFrom_59 hu14 ?_
  refine rn_aload_n (pc := 62) 0 dX7_copyFrom_62 rfl rfl ?_
  refine rn_aload_n (pc := 63) 1 dX7_copyFrom_63 rfl rfl ?_
  obtain ⟨v15, hv15, h15⟩ := bnd_some h14
  refine rn_getI (pc := 64) (k := 6) okX7 (by decide) tw_153 rfl dX7_copyFrom_64 hv15 ?_
  obtain ⟨u16, hu16, h16⟩ := bnd_some h15
  refine rn_putI (pc := 67) (k := 6) okX7 (by decide) tw_153 (Or.inl rfl) (Or.inl rfl) dX7_copyFrom_67 hu16 ?_
  cases h16
  exact rn_vret (pc := 70) rfl dX7_copyFrom_70
theorem eX7_copyFrom {l : Launch} {G : Gt} {d : Nat} {t0 : Nat} {p1 : Option Nat} {u : Mem} {y : Mem} (h : fX7_copyFrom t0 p1 u = some y) : Ex l G iX7_copyFrom (d + 1) [rv (some t0), rv p1] u (.returned none) y := Ex.of (by decide +kernel) (by decide) (by cases p1 <;> exact Nat.le_of_ble_eq_true rfl) (by cases p1 <;> rfl) (tX7_copyFrom h)
theorem tX8_init {l : Launch} {G : Gt} {d : Nat} {t0 : Nat} {u : Mem} {y : Mem} (h : fX8_init t0 u = some y) : Rn l G iX8_init (d + 1) 0 [(0, rv (some t0))] [] u (.returned none) y := by
  unfold fX8_init at h
  refine rn_aload_n (pc := 0) 0 dX8_init_0 rfl rfl ?_
  refine rn_objInit (pc := 1) (by omega) tw_103 tw_97 tw_98 (by decide) dX8_init_1 ?_
  refine rn_aload_n (pc := 4) 0 dX8_init_4 rfl rfl ?_
  refine rn_sipush (pc := 5) (v := 500) dX8_init_5 (by decide) ?_
  obtain ⟨a1, u2, ha1, h1⟩ := bnd2_some h
  refine rn_newa (pc := 8) (N := 500) (atype := .byte) (by decide) rfl tw_114 (by decide) (by decide) (by decide) dX8_init_8 ha1 ?_
  obtain ⟨u3, hu3, h2⟩ := bnd_some h1
  refine rn_putR (pc := 10) (k := 0) okX8 (by decide) tw_104 (Or.inr ⟨rfl, rfl, rfl⟩) rfl dX8_init_10 hu3 ?_
  cases h2
  exact rn_vret (pc := 13) rfl dX8_init_13
theorem eX8_init {l : Launch} {G : Gt} {d : Nat} {t0 : Nat} {u : Mem} {y : Mem} (h : fX8_init t0 u = some y) : Ex l G iX8_init (d + 1) [rv (some t0)] u (.returned none) y := Ex.of (by decide +kernel) (by decide) (Nat.le_of_ble_eq_true rfl) rfl (tX8_init h)
theorem btX8_append_3 {l : Launch} {G : Gt} {d : Nat} {t0 : Nat} {i1 : Int32} {s2 : Int32} {u : Mem} {y : (Int32 × Mem) ⊕ (Mem)} {o : Outcome} {u' : Mem} (h : bX8_append_3 t0 i1 s2 u = some y) (k0 : ∀ s' : Int32 × Mem, y = .inl s' → Rn l G iX8_append d 3 [(0, rv (some t0)), (1, .int i1), (2, .int s'.1)] [] s'.2 o u') (k1 : ∀ r : Mem, y = .inr (r) → Rn l G iX8_append d 46 [] [] r o u') : Rn l G iX8_append d 3 [(0, rv (some t0)), (1, .int i1), (2, .int s2)] [] u o u' := by
  unfold bX8_append_3 at h
  refine rn_iload_n (pc := 3) 2 dX8_append_3 rfl rfl ?_
  rcases if_elim h with ⟨c1, h1⟩ | ⟨c1, h1⟩
  · refine rn_zlt_t (pc := 4) (tgt := 46) dX8_append_4 (by decide) c1 ?_
    cases h1
    exact rn_sub [] rfl (k1 _ rfl)
  · refine rn_zlt_f (pc := 4) 46 dX8_append_4 (by decide) c1 ?_
    refine rn_aload_n (pc := 7) 0 dX8_append_7 rfl rfl ?_
    obtain ⟨v2, hv2, h2⟩ := bnd_some h1
    refine rn_getI (pc := 8) (k := 1) okX8 (by decide) tw_107 rfl dX8_append_8 hv2 ?_
    refine rn_sipush (pc := 11) (v := 500) dX8_append_11 (by decide) ?_
    rcases if_elim h2 with ⟨c3, h3⟩ | ⟨c3, h3⟩
    · refine rn_ige_f (pc := 14) 46 dX8_append_14 (by decide) c3 ?_
      refine rn_aload_n (pc := 17) 0 dX8_append_17 rfl rfl ?_
      obtain ⟨v4, hv4, h4⟩ := bnd_some h3
      refine rn_getR (pc := 18) (k := 0) okX8 (by decide) tw_104 rfl dX8_append_18 hv4 ?_
      refine rn_aload_n (pc := 21) 0 dX8_append_21 rfl rfl ?_
      obtain ⟨v5, hv5, h5⟩ := bnd_some h4
      refine rn_getI (pc := 22) (k := 1) okX8 (by decide) tw_107 rfl dX8_append_22 hv5 ?_
      refine rn_iload_n (pc := 25) 1 dX8_append_25 rfl rfl ?_
      refine rn_iload_n (pc := 26) 2 dX8_append_26 rfl rfl ?_
      refine rn_ishr (pc := 27) dX8_append_27 ?_
      refine rn_i2b (pc := 28) dX8_append_28 ?_
      obtain ⟨u6, hu6, h6⟩ := bnd_some h5
      refine rn_bast (pc := 29) dX8_append_29 hu6 ?_
      refine rn_aload_n (pc := 30) 0 dX8_append_30 rfl rfl ?_
      refine rn_dup (pc := 31) dX8_append_31 (rv_cat _) ?_
      obtain ⟨v7, hv7, h7⟩ := bnd_some h6
      refine rn_getI (pc := 32) (k := 1) okX8 (by decide) tw_107 rfl dX8_append_32 hv7 ?_
      refine rn_iconst (pc := 35) (v := 1) dX8_append_35 (by decide) ?_
      refine rn_iadd (pc := 36) dX8_append_36 ?_
      obtain ⟨u8, hu8, h8⟩ := bnd_some h7
      refine rn_putI (pc := 37) (k := 1) okX8 (by decide) tw_107 (Or.inl rfl) (Or.inl rfl) dX8_append_37 hu8 ?_
      obtain ⟨x9, ex9, h9⟩ := nm_elim h8
      refine rn_iinc (pc := 40) (v := x9) (lv' := [(2, .int x9), (0, rv (some t0)), (1, .int i1)]) 2 dX8_append_40 rfl (by rw [ex9]; rfl) (by decide) rfl ?_
      refine rn_goto (pc := 43) (tgt := 3) dX8_append_43 (by decide) ?_
      cases h9
      exact rn_sub [1, 2, 0] rfl (k0 _ rfl)
    · refine rn_ige_t (pc := 14) (tgt := 46) dX8_append_14 (by decide) c3 ?_
      cases h3
      exact rn_sub [] rfl (k1 _ rfl)
theorem lX8_append_3 {l : Launch} {G : Gt} {d : Nat} {t0 : Nat} {i1 : Int32} {N : Nat} {s0 : Int32 × Mem} {r : Mem} {o : Outcome} {u' : Mem} (h : lp (fun s : Int32 × Mem => bX8_append_3 t0 i1 s.1 s.2) N s0 = some r) (k1 : Rn l G iX8_append d 46 [] [] r o u') : Rn l G iX8_append d 3 [(0, rv (some t0)), (1, .int i1), (2, .int s0.1)] [] s0.2 o u' :=
  lp_run (P := fun s : Int32 × Mem => Rn l G iX8_append d 3 [(0, rv (some t0)), (1, .int i1), (2, .int s.1)] [] s.2 o u') (E := fun r => Rn l G iX8_append d 46 [] [] r o u') (fun s y hy k0 kE => btX8_append_3 hy (fun s' e => k0 s' e) (fun r e => kE r e)) N s0 r h k1
theorem tX8_append {l : Launch} {G : Gt} {d : Nat} {t0 : Nat} {p1 : Int32} {u : Mem} {y : Mem} (h : fX8_append t0 p1 u = some y) : Rn l G iX8_append d 0 [(0, rv (some t0)), (1, .int p1)] [] u (.returned none) y := by
  unfold fX8_append at h
  refine rn_bipush (pc := 0) (v := 24) dX8_append_0 (by decide) ?_
  refine rn_istore_n (pc := 2) (lv' := [(2, .int (24 : Int32)), (0, rv (some t0)), (1, .int p1)]) dX8_append_2 rfl (by decide) rfl ?_
  obtain ⟨r10, hr10, h1⟩ := bnd_some h
  refine rn_sub [1, 2, 0] rfl (lX8_append_3 hr10 ?_)
  cases h1
  exact rn_vret (pc := 46) rfl dX8_append_46
theorem eX8_append {l : Launch} {G : Gt} {d : Nat} {t0 : Nat} {p1 : Int32} {u : Mem} {y : Mem} (h : fX8_append t0 p1 u = some y) : Ex l G iX8_append d [rv (some t0), .int p1] u (.returned none) y := Ex.of (by decide +kernel) (by decide) (Nat.le_of_ble_eq_true rfl) rfl (tX8_append h)
theorem tX9_init {l : Launch} {G : Gt} {d : Nat} {t0 : Nat} {p1 : Option Nat} {u : Mem} {y : Mem} (h : fX9_init t0 p1 u = some y) : Rn l G iX9_init (d + 1) 0 [(0, rv (some t0)), (1, rv p1)] [] u (.returned none) y := by
  unfold fX9_init at h
  refine rn_aload_n (pc := 0) 0 dX9_init_0 rfl rfl ?_
  refine rn_objInit (pc := 1) (by omega) tw_367 tw_97 tw_98 (by decide) dX9_init_1 ?_
  refine rn_aload_n (pc := 4) 0 dX9_init_4 rfl rfl ?_
  refine rn_bipush (pc := 5) (v := 30) dX9_init_5 (by decide) ?_
  obtain ⟨a1, u2, ha1, h1⟩ := bnd2_some h
  refine rn_newa (pc := 7) (N := 30) (atype := .int) (by decide) rfl tw_172 (by decide) (by decide) (by decide) dX9_init_7 ha1 ?_
  obtain ⟨u3, hu3, h2⟩ := bnd_some h1
  refine rn_putR (pc := 9) (k := 0) okX9 (by decide) tw_368 (Or.inr ⟨rfl, rfl, rfl⟩) rfl dX9_init_9 hu3 ?_
  refine rn_aload_n (pc := 12) 0 dX9_init_12 rfl rfl ?_
  refine rn_bipush (pc := 13) (v := 30) dX9_init_13 (by decide) ?_
  obtain ⟨a4, u5, ha4, h3⟩ := bnd2_some h2
  refine rn_newa (pc := 15) (N := 30) (atype := .int) (by decide) rfl tw_172 (by decide) (by decide) (by decide) dX9_init_15 ha4 ?_
  obtain ⟨u6, hu6, h4⟩ := bnd_some h3
  refine rn_putR (pc := 17) (k := 1) okX9 (by decide) tw_370 (Or.inr ⟨rfl, rfl, rfl⟩) rfl dX9_init_17 hu6 ?_
  refine rn_aload_n (pc := 20) 0 dX9_init_20 rfl rfl ?_
  refine rn_bipush (pc := 21) (v := 30) dX9_init_21 (by decide) ?_
  obtain ⟨a7, u8, ha7, h5⟩ := bnd2_some h4
  refine rn_newa (pc := 23) (N := 30) (atype := .int) (by decide) rfl tw_172 (by decide) (by decide) (by decide) dX9_init_23 ha7 ?_
  obtain ⟨u9, hu9, h6⟩ := bnd_some h5
  refine rn_putR (pc := 25) (k := 2) okX9 (by decide) tw_372 (Or.inr ⟨rfl, rfl, rfl⟩) rfl dX9_init_25 hu9 ?_
  refine rn_aload_n (pc := 28) 0 dX9_init_28 rfl rfl ?_
  refine rn_aload_n (pc := 29) 1 dX9_init_29 rfl rfl ?_
  obtain ⟨u10, hu10, h7⟩ := bnd_some h6
  refine rn_putR (pc := 30) (k := 4) okX9 (by decide) tw_377 (Or.inr ⟨rfl, rfl, rfl⟩) rfl dX9_init_30 hu10 ?_
  cases h7
  exact rn_vret (pc := 33) rfl dX9_init_33
theorem eX9_init {l : Launch} {G : Gt} {d : Nat} {t0 : Nat} {p1 : Option Nat} {u : Mem} {y : Mem} (h : fX9_init t0 p1 u = some y) : Ex l G iX9_init (d + 1) [rv (some t0), rv p1] u (.returned none) y := Ex.of (by decide +kernel) (by decide) (by cases p1 <;> exact Nat.le_of_ble_eq_true rfl) (by cases p1 <;> rfl) (tX9_init h)
theorem tX9_append {l : Launch} {G : Gt} {d : Nat} {t0 : Nat} {p1 : Int32} {p2 : Int32} {p3 : Int32} {u : Mem} {y : Int32 × Mem} (h : fX9_append t0 p1 p2 p3 u = some y) : Rn l G iX9_append d 0 [(0, rv (some t0)), (1, .int p1), (2, .int p2), (3, .int p3)] [] u (.returned (some (.int y.1))) y.2 := by
  unfold fX9_append at h
  refine rn_aload_n (pc := 0) 0 dX9_append_0 rfl rfl ?_
  obtain ⟨v1, hv1, h1⟩ := bnd_some h
  refine rn_getI (pc := 1) (k := 3) okX9 (by decide) tw_374 rfl dX9_append_1 hv1 ?_
  refine rn_istore (pc := 4) (lv' := [(4, .int v1), (0, rv (some t0)), (1, .int p1), (2, .int p2), (3, .int p3)]) dX9_append_4 (by decide) rfl ?_
  refine rn_aload_n (pc := 6) 1 dX9_append_6 rfl rfl ?_
  obtain ⟨v2, hv2, h2⟩ := bnd_some h1
  refine rn_getR (pc := 7) (k := 0) okX9 (by decide) tw_368 rfl dX9_append_7 hv2 ?_
  refine rn_iload (pc := 10) 0 dX9_append_10 rfl ?_
  refine rn_iload_n (pc := 12) 2 dX9_append_12 rfl rfl ?_
  obtain ⟨u3, hu3, h3⟩ := bnd_some h2
  refine rn_iast (pc := 13) dX9_append_13 hu3 ?_
  refine rn_aload_n (pc := 14) 1 dX9_append_14 rfl rfl ?_
  obtain ⟨v4, hv4, h4⟩ := bnd_some h3
  refine rn_getR (pc := 15) (k := 1) okX9 (by decide) tw_370 rfl dX9_append_15 hv4 ?_
  refine rn_iload (pc := 18) 0 dX9_append_18 rfl ?_
  refine rn_iload_n (pc := 20) 3 dX9_append_20 rfl rfl ?_
  obtain ⟨u5, hu5, h5⟩ := bnd_some h4
  refine rn_iast (pc := 21) dX9_append_21 hu5 ?_
  refine rn_aload_n (pc := 22) 1 dX9_append_22 rfl rfl ?_
  obtain ⟨v6, hv6, h6⟩ := bnd_some h5
  refine rn_getR (pc := 23) (k := 2) okX9 (by decide) tw_372 rfl dX9_append_23 hv6 ?_
  refine rn_iload (pc := 26) 0 dX9_append_26 rfl ?_
  refine rn_iload_n (pc := 28) 4 dX9_append_28 rfl rfl ?_
  obtain ⟨u7, hu7, h7⟩ := bnd_some h6
  refine rn_iast (pc := 29) dX9_append_29 hu7 ?_
  refine rn_aload_n (pc := 30) 1 dX9_append_30 rfl rfl ?_
  refine rn_dup (pc := 31) dX9_append_31 (rv_cat _) ?_
  obtain ⟨v8, hv8, h8⟩ := bnd_some h7
  refine rn_getI (pc := 32) (k := 3) okX9 (by decide) tw_374 rfl dX9_append_32 hv8 ?_
  refine rn_iconst (pc := 35) (v := 1) dX9_append_35 (by decide) ?_
  refine rn_iadd (pc := 36) dX9_append_36 ?_
  obtain ⟨u9, hu9, h9⟩ := bnd_some h8
  refine rn_putI (pc := 37) (k := 3) okX9 (by decide) tw_374 (Or.inl rfl) (Or.inl rfl) dX9_append_37 hu9 ?_
  refine rn_iload (pc := 40) 0 dX9_append_40 rfl ?_
  cases h9
  exact rn_iret (pc := 42) rfl dX9_append_42
theorem eX9_append {l : Launch} {G : Gt} {d : Nat} {t0 : Nat} {p1 : Int32} {p2 : Int32} {p3 : Int32} {u : Mem} {y : Int32 × Mem} (h : fX9_append t0 p1 p2 p3 u = some y) : Ex l G iX9_append d [rv (some t0), .int p1, .int p2, .int p3] u (.returned (some (.int y.1))) y.2 := Ex.of (by decide +kernel) (by decide) (Nat.le_of_ble_eq_true rfl) rfl (tX9_append h)
theorem tX9_isBroken {l : Launch} {G : Gt} {d : Nat} {p0 : Int32} {p1 : Int32} {p2 : Int32} {u : Mem} {y : Int32} (h : fX9_isBroken p0 p1 p2 u = some y) : Rn l G iX9_isBroken d 0 [(0, .int p0), (1, .int p1), (2, .int p2)] [] u (.returned (some (.int y))) u := by
  unfold fX9_isBroken at h
  refine rn_iload_n (pc := 0) 0 dX9_isBroken_0 rfl rfl ?_
  rcases if_elim h with ⟨c1, h1⟩ | ⟨c1, h1⟩
  · refine rn_lsw (pc := 1) (tgt := 28) (off := 27) dX9_isBroken_1 (by decide) (by rw [c1]; rfl) (by decide) ?_
    refine rn_iload_n (pc := 28) 1 dX9_isBroken_28 rfl rfl ?_
    refine rn_iload_n (pc := 29) 2 dX9_isBroken_29 rfl rfl ?_
    rcases if_elim h1 with ⟨c2, h2⟩ | ⟨c2, h2⟩
    · refine rn_ile_f (pc := 30) 37 dX9_isBroken_30 (by decide) c2 ?_
      refine rn_iconst (pc := 33) (v := 1) dX9_isBroken_33 (by decide) ?_
      refine rn_goto (pc := 34) (tgt := 38) dX9_isBroken_34 (by decide) ?_
      cases h2
      exact rn_zret (pc := 38) (by decide) rfl dX9_isBroken_38
    · refine rn_ile_t (pc := 30) (tgt := 37) dX9_isBroken_30 (by decide) c2 ?_
      refine rn_iconst (pc := 37) (v := 0) dX9_isBroken_37 (by decide) ?_
      cases h2
      exact rn_zret (pc := 38) (by decide) rfl dX9_isBroken_38
  · skip
    rcases if_elim h1 with ⟨c3, h3⟩ | ⟨c3, h3⟩
    · refine rn_lsw (pc := 1) (tgt := 39) (off := 38) dX9_isBroken_1 (by decide) (by rw [c3]; rfl) (by decide) ?_
      refine rn_iload_n (pc := 39) 1 dX9_isBroken_39 rfl rfl ?_
      refine rn_iload_n (pc := 40) 2 dX9_isBroken_40 rfl rfl ?_
      refine rn_iadd (pc := 41) dX9_isBroken_41 ?_
      refine rn_bipush (pc := 42) (v := 10) dX9_isBroken_42 (by decide) ?_
      rcases if_elim h3 with ⟨c4, h4⟩ | ⟨c4, h4⟩
      · refine rn_ile_f (pc := 44) 51 dX9_isBroken_44 (by decide) c4 ?_
        refine rn_iconst (pc := 47) (v := 1) dX9_isBroken_47 (by decide) ?_
        refine rn_goto (pc := 48) (tgt := 52) dX9_isBroken_48 (by decide) ?_
        cases h4
        exact rn_zret (pc := 52) (by decide) rfl dX9_isBroken_52
      · refine rn_ile_t (pc := 44) (tgt := 51) dX9_isBroken_44 (by decide) c4 ?_
        refine rn_iconst (pc := 51) (v := 0) dX9_isBroken_51 (by decide) ?_
        cases h4
        exact rn_zret (pc := 52) (by decide) rfl dX9_isBroken_52
    · skip
      refine rn_lsw (pc := 1) (tgt := 53) (off := 52) dX9_isBroken_1 (by decide) (by rw [lv_osw (k := 0) c1 (by decide), lv_osw (k := 1) c3 (by decide)]; rfl) (by decide) ?_
      refine rn_iload_n (pc := 53) 1 dX9_isBroken_53 rfl rfl ?_
      refine rn_iload_n (pc := 54) 2 dX9_isBroken_54 rfl rfl ?_
      refine rn_iadd (pc := 55) dX9_isBroken_55 ?_
      refine rn_bipush (pc := 56) (v := 10) dX9_isBroken_56 (by decide) ?_
      rcases if_elim h3 with ⟨c5, h5⟩ | ⟨c5, h5⟩
      · refine rn_ige_f (pc := 58) 65 dX9_isBroken_58 (by decide) c5 ?_
        refine rn_iconst (pc := 61) (v := 1) dX9_isBroken_61 (by decide) ?_
        refine rn_goto (pc := 62) (tgt := 66) dX9_isBroken_62 (by decide) ?_
        cases h5
        exact rn_zret (pc := 66) (by decide) rfl dX9_isBroken_66
      · refine rn_ige_t (pc := 58) (tgt := 65) dX9_isBroken_58 (by decide) c5 ?_
        refine rn_iconst (pc := 65) (v := 0) dX9_isBroken_65 (by decide) ?_
        cases h5
        exact rn_zret (pc := 66) (by decide) rfl dX9_isBroken_66
theorem eX9_isBroken {l : Launch} {G : Gt} {d : Nat} {p0 : Int32} {p1 : Int32} {p2 : Int32} {u : Mem} {y : Int32} (h : fX9_isBroken p0 p1 p2 u = some y) : Ex l G iX9_isBroken d [.int p0, .int p1, .int p2] u (.returned (some (.int y))) u := Ex.of (by decide +kernel) (by decide) (Nat.le_of_ble_eq_true rfl) rfl (tX9_isBroken h)
theorem btX9_brokenBits_5 {l : Launch} {G : Gt} {d : Nat} {t0 : Nat} {i1 : Int32} {i2 : Int32} {u : Mem} {s3 : Int32} {s4 : Int32} {y : (Int32 × Int32) ⊕ (Int32)} {o : Outcome} {u' : Mem} (h : bX9_brokenBits_5 t0 i1 i2 u s3 s4 = some y) (k0 : ∀ s' : Int32 × Int32, y = .inl s' → Rn l G iX9_brokenBits (d + 2) 5 [(0, rv (some t0)), (1, .int i1), (2, .int i2), (3, .int s'.1), (4, .int s'.2)] [] u o u') (k1 : ∀ r : Int32, y = .inr (r) → Rn l G iX9_brokenBits (d + 2) 92 [(3, .int r)] [] u o u') : Rn l G iX9_brokenBits (d + 2) 5 [(0, rv (some t0)), (1, .int i1), (2, .int i2), (3, .int s3), (4, .int s4)] [] u o u' := by
  unfold bX9_brokenBits_5 at h
  refine rn_iload (pc := 5) 4 dX9_brokenBits_5 rfl ?_
  refine rn_aload_n (pc := 7) 0 dX9_brokenBits_7 rfl rfl ?_
  obtain ⟨v1, hv1, h1⟩ := bnd_some h
  refine rn_getI (pc := 8) (k := 3) okX9 (by decide) tw_374 rfl dX9_brokenBits_8 hv1 ?_
  rcases if_elim h1 with ⟨c2, h2⟩ | ⟨c2, h2⟩
  · refine rn_ige_f (pc := 11) 92 dX9_brokenBits_11 (by decide) c2 ?_
    refine rn_aload_n (pc := 14) 0 dX9_brokenBits_14 rfl rfl ?_
    obtain ⟨v3, hv3, h3⟩ := bnd_some h2
    refine rn_getR (pc := 15) (k := 4) okX9 (by decide) tw_377 rfl dX9_brokenBits_15 hv3 ?_
    refine rn_iload_n (pc := 18) 1 dX9_brokenBits_18 rfl rfl ?_
    refine rn_aload_n (pc := 19) 0 dX9_brokenBits_19 rfl rfl ?_
    obtain ⟨v4, hv4, h4⟩ := bnd_some h3
    refine rn_getR (pc := 20) (k := 0) okX9 (by decide) tw_368 rfl dX9_brokenBits_20 hv4 ?_
    refine rn_iload (pc := 23) 4 dX9_brokenBits_23 rfl ?_
    obtain ⟨v5, hv5, h5⟩ := bnd_some h4
    refine rn_iald (pc := 25) dX9_brokenBits_25 hv5 ?_
    refine rn_iload_n (pc := 26) 2 dX9_brokenBits_26 rfl rfl ?_
    obtain ⟨b6, hb6, h6⟩ := bnd_some h5
    obtain ⟨qb6, kb6⟩ := chk_elim hb6
    subst qb6
    obtain ⟨v7, hv7, h7⟩ := bnd_some h6
    refine rn_callV (pc := 27) (n := 3) (As := [.int i1, .int v5, .int i2]) (rest := []) (eX0_heldTenth (d := d + 0) hv7) (by omega) okX0 kb6 tw_650 tw_72 tw_874 tw_648 tw_649 (by decide +kernel) rfl (Nat.le_of_ble_eq_true rfl) dX9_brokenBits_27 rfl ?_
    refine rn_istore (pc := 30) (lv' := [(5, .int v7), (0, rv (some t0)), (1, .int i1), (2, .int i2), (3, .int s3), (4, .int s4)]) dX9_brokenBits_30 (by decide) rfl ?_
    refine rn_aload_n (pc := 32) 1 dX9_brokenBits_32 rfl rfl ?_
    obtain ⟨v8, hv8, h8⟩ := bnd_some h7
    refine rn_getR (pc := 33) (k := 4) okX9 (by decide) tw_377 rfl dX9_brokenBits_33 hv8 ?_
    refine rn_iload_n (pc := 36) 2 dX9_brokenBits_36 rfl rfl ?_
    refine rn_aload_n (pc := 37) 1 dX9_brokenBits_37 rfl rfl ?_
    obtain ⟨v9, hv9, h9⟩ := bnd_some h8
    refine rn_getR (pc := 38) (k := 1) okX9 (by decide) tw_370 rfl dX9_brokenBits_38 hv9 ?_
    refine rn_iload (pc := 41) 5 dX9_brokenBits_41 rfl ?_
    obtain ⟨v10, hv10, h10⟩ := bnd_some h9
    refine rn_iald (pc := 43) dX9_brokenBits_43 hv10 ?_
    refine rn_iload_n (pc := 44) 3 dX9_brokenBits_44 rfl rfl ?_
    obtain ⟨b11, hb11, h11⟩ := bnd_some h10
    obtain ⟨qb11, kb11⟩ := chk_elim hb11
    subst qb11
    obtain ⟨v12, hv12, h12⟩ := bnd_some h11
    refine rn_callV (pc := 45) (n := 3) (As := [.int i1, .int v10, .int i2]) (rest := []) (eX0_heldTenth (d := d + 0) hv12) (by omega) okX0 kb11 tw_650 tw_72 tw_874 tw_648 tw_649 (by decide +kernel) rfl (Nat.le_of_ble_eq_true rfl) dX9_brokenBits_45 rfl ?_
    refine rn_istore (pc := 48) (lv' := [(6, .int v12), (5, .int v7), (0, rv (some t0)), (1, .int i1), (2, .int i2), (3, .int s3), (4, .int s4)]) dX9_brokenBits_48 (by decide) rfl ?_
    refine rn_iload (pc := 50) 1 dX9_brokenBits_50 rfl ?_
    refine rn_iconst (pc := 52) (v := -1) dX9_brokenBits_52 (by decide) ?_
    rcases if_elim h12 with ⟨c13, h13⟩ | ⟨c13, h13⟩
    · refine rn_ieq_t (pc := 53) (tgt := 86) dX9_brokenBits_53 (by decide) c13 ?_
      obtain ⟨x14, ex14, h14⟩ := nm_elim h13
      refine rn_iinc (pc := 86) (v := x14) (lv' := [(4, .int x14), (6, .int v12), (5, .int v7), (0, rv (some t0)), (1, .int i1), (2, .int i2), (3, .int s3)]) 6 dX9_brokenBits_86 rfl (by rw [ex14]; rfl) (by decide) rfl ?_
      refine rn_goto (pc := 89) (tgt := 5) dX9_brokenBits_89 (by decide) ?_
      cases h14
      exact rn_sub [3, 4, 5, 6, 0] rfl (k0 _ rfl)
    · refine rn_ieq_f (pc := 53) 86 dX9_brokenBits_53 (by decide) c13 ?_
      refine rn_iload (pc := 56) 0 dX9_brokenBits_56 rfl ?_
      refine rn_iconst (pc := 58) (v := -1) dX9_brokenBits_58 (by decide) ?_
      rcases if_elim h13 with ⟨c15, h15⟩ | ⟨c15, h15⟩
      · refine rn_ieq_t (pc := 59) (tgt := 86) dX9_brokenBits_59 (by decide) c15 ?_
        obtain ⟨x16, ex16, h16⟩ := nm_elim h15
        refine rn_iinc (pc := 86) (v := x16) (lv' := [(4, .int x16), (6, .int v12), (5, .int v7), (0, rv (some t0)), (1, .int i1), (2, .int i2), (3, .int s3)]) 6 dX9_brokenBits_86 rfl (by rw [ex16]; rfl) (by decide) rfl ?_
        refine rn_goto (pc := 89) (tgt := 5) dX9_brokenBits_89 (by decide) ?_
        cases h16
        exact rn_sub [3, 4, 5, 6, 0] rfl (k0 _ rfl)
      · refine rn_ieq_f (pc := 59) 86 dX9_brokenBits_59 (by decide) c15 ?_
        refine rn_aload_n (pc := 62) 2 dX9_brokenBits_62 rfl rfl ?_
        obtain ⟨v17, hv17, h17⟩ := bnd_some h15
        refine rn_getR (pc := 63) (k := 2) okX9 (by decide) tw_372 rfl dX9_brokenBits_63 hv17 ?_
        refine rn_iload (pc := 66) 6 dX9_brokenBits_66 rfl ?_
        obtain ⟨v18, hv18, h18⟩ := bnd_some h17
        refine rn_iald (pc := 68) dX9_brokenBits_68 hv18 ?_
        refine rn_iload (pc := 69) 1 dX9_brokenBits_69 rfl ?_
        refine rn_iload (pc := 71) 0 dX9_brokenBits_71 rfl ?_
        obtain ⟨v19, hv19, h19⟩ := bnd_some h18
        refine rn_callS (pc := 73) (n := 3) (As := [.int v18, .int v7, .int v12]) (rest := []) (eX9_isBroken (d := d + 1) hv19) (by omega) tw_877 tw_76 tw_875 tw_876 (by decide +kernel) rfl (Nat.le_of_ble_eq_true rfl) dX9_brokenBits_73 rfl ?_
        rcases if_elim h19 with ⟨c20, h20⟩ | ⟨c20, h20⟩
        · refine rn_zeq_t (pc := 76) (tgt := 86) dX9_brokenBits_76 (by decide) c20 ?_
          obtain ⟨x21, ex21, h21⟩ := nm_elim h20
          refine rn_iinc (pc := 86) (v := x21) (lv' := [(4, .int x21), (6, .int v12), (5, .int v7), (0, rv (some t0)), (1, .int i1), (2, .int i2), (3, .int s3)]) 6 dX9_brokenBits_86 rfl (by rw [ex21]; rfl) (by decide) rfl ?_
          refine rn_goto (pc := 89) (tgt := 5) dX9_brokenBits_89 (by decide) ?_
          cases h21
          exact rn_sub [3, 4, 5, 6, 0] rfl (k0 _ rfl)
        · refine rn_zeq_f (pc := 76) 86 dX9_brokenBits_76 (by decide) c20 ?_
          refine rn_iload_n (pc := 79) 5 dX9_brokenBits_79 rfl rfl ?_
          refine rn_iconst (pc := 80) (v := 1) dX9_brokenBits_80 (by decide) ?_
          refine rn_iload (pc := 81) 6 dX9_brokenBits_81 rfl ?_
          refine rn_ishl (pc := 83) dX9_brokenBits_83 ?_
          refine rn_ior (pc := 84) dX9_brokenBits_84 ?_
          obtain ⟨x22, ex22, h22⟩ := nm_elim h20
          refine rn_topi ex22 ?_
          refine rn_istore_n (pc := 85) (lv' := [(3, .int x22), (6, .int v12), (5, .int v7), (0, rv (some t0)), (1, .int i1), (2, .int i2), (4, .int s4)]) dX9_brokenBits_85 rfl (by decide) rfl ?_
          obtain ⟨x23, ex23, h23⟩ := nm_elim h22
          refine rn_iinc (pc := 86) (v := x23) (lv' := [(4, .int x23), (3, .int x22), (6, .int v12), (5, .int v7), (0, rv (some t0)), (1, .int i1), (2, .int i2)]) 6 dX9_brokenBits_86 rfl (by rw [ex23]; rfl) (by decide) rfl ?_
          refine rn_goto (pc := 89) (tgt := 5) dX9_brokenBits_89 (by decide) ?_
          cases h23
          exact rn_sub [4, 5, 6, 1, 0] rfl (k0 _ rfl)
  · refine rn_ige_t (pc := 11) (tgt := 92) dX9_brokenBits_11 (by decide) c2 ?_
    cases h2
    exact rn_sub [3] rfl (k1 _ rfl)
theorem lX9_brokenBits_5 {l : Launch} {G : Gt} {d : Nat} {t0 : Nat} {i1 : Int32} {i2 : Int32} {u : Mem} {N : Nat} {s0 : Int32 × Int32} {r : Int32} {o : Outcome} {u' : Mem} (h : lp (fun s : Int32 × Int32 => bX9_brokenBits_5 t0 i1 i2 u s.1 s.2) N s0 = some r) (k1 : Rn l G iX9_brokenBits (d + 2) 92 [(3, .int r)] [] u o u') : Rn l G iX9_brokenBits (d + 2) 5 [(0, rv (some t0)), (1, .int i1), (2, .int i2), (3, .int s0.1), (4, .int s0.2)] [] u o u' :=
  lp_run (P := fun s : Int32 × Int32 => Rn l G iX9_brokenBits (d + 2) 5 [(0, rv (some t0)), (1, .int i1), (2, .int i2), (3, .int s.1), (4, .int s.2)] [] u o u') (E := fun r => Rn l G iX9_brokenBits (d + 2) 92 [(3, .int r)] [] u o u') (fun s y hy k0 kE => btX9_brokenBits_5 hy (fun s' e => k0 s' e) (fun r e => kE r e)) N s0 r h k1
theorem tX9_brokenBits {l : Launch} {G : Gt} {d : Nat} {t0 : Nat} {p1 : Int32} {p2 : Int32} {u : Mem} {y : Int32} (h : fX9_brokenBits t0 p1 p2 u = some y) : Rn l G iX9_brokenBits (d + 2) 0 [(0, rv (some t0)), (1, .int p1), (2, .int p2)] [] u (.returned (some (.int y))) u := by
  unfold fX9_brokenBits at h
  refine rn_iconst (pc := 0) (v := 0) dX9_brokenBits_0 (by decide) ?_
  refine rn_istore_n (pc := 1) (lv' := [(3, .int (0 : Int32)), (0, rv (some t0)), (1, .int p1), (2, .int p2)]) dX9_brokenBits_1 rfl (by decide) rfl ?_
  refine rn_iconst (pc := 2) (v := 0) dX9_brokenBits_2 (by decide) ?_
  refine rn_istore (pc := 3) (lv' := [(4, .int (0 : Int32)), (3, .int (0 : Int32)), (0, rv (some t0)), (1, .int p1), (2, .int p2)]) dX9_brokenBits_3 (by decide) rfl ?_
  obtain ⟨r24, hr24, h1⟩ := bnd_some h
  refine rn_sub [2, 3, 4, 1, 0] rfl (lX9_brokenBits_5 hr24 ?_)
  refine rn_iload_n (pc := 92) 0 dX9_brokenBits_92 rfl rfl ?_
  cases h1
  exact rn_iret (pc := 93) rfl dX9_brokenBits_93
theorem eX9_brokenBits {l : Launch} {G : Gt} {d : Nat} {t0 : Nat} {p1 : Int32} {p2 : Int32} {u : Mem} {y : Int32} (h : fX9_brokenBits t0 p1 p2 u = some y) : Ex l G iX9_brokenBits (d + 2) [rv (some t0), .int p1, .int p2] u (.returned (some (.int y))) u := Ex.of (by decide +kernel) (by decide) (Nat.le_of_ble_eq_true rfl) rfl (tX9_brokenBits h)
theorem tX10_init {l : Launch} {G : Gt} {d : Nat} {t0 : Nat} {u : Mem} {y : Mem} (h : fX10_init t0 u = some y) : Rn l G iX10_init (d + 3) 0 [(0, rv (some t0))] [] u (.returned none) y := by
  unfold fX10_init at h
  refine rn_aload_n (pc := 0) 0 dX10_init_0 rfl rfl ?_
  refine rn_objInit (pc := 1) (by omega) tw_96 tw_97 tw_98 (by decide) dX10_init_1 ?_
  refine rn_aload_n (pc := 4) 0 dX10_init_4 rfl rfl ?_
  obtain ⟨a1, u2, ha1, h1⟩ := bnd2_some h
  refine rn_new (pc := 5) okX8 (by decide +kernel) tw_99 tw_100 tw_69 dX10_init_5 ha1 ?_
  refine rn_dup (pc := 8) dX10_init_8 (rv_cat _) ?_
  obtain ⟨u3, hu3, h2⟩ := bnd_some h1
  refine rn_callIN (pc := 9) (host := "ForeBook") (n := 0) (As := []) (rest := [rv (some a1), rv (some t0)]) (eX8_init (d := d + 1) hu3) (by omega) rfl tw_102 tw_69 (by decide +kernel) tw_101 rfl (by decide +kernel) rfl (Nat.le_of_ble_eq_true rfl) dX10_init_9 rfl ?_
  obtain ⟨u4, hu4, h3⟩ := bnd_some h2
  refine rn_putR (pc := 12) (k := 0) okX10 (by decide) tw_427 (Or.inr ⟨rfl, rfl, rfl⟩) rfl dX10_init_12 hu4 ?_
  refine rn_aload_n (pc := 15) 0 dX10_init_15 rfl rfl ?_
  obtain ⟨a5, u6, ha5, h4⟩ := bnd2_some h3
  refine rn_new (pc := 16) okX6 (by decide +kernel) tw_115 tw_116 tw_70 dX10_init_16 ha5 ?_
  refine rn_dup (pc := 19) dX10_init_19 (rv_cat _) ?_
  refine rn_aload_n (pc := 20) 0 dX10_init_20 rfl rfl ?_
  obtain ⟨v7, hv7, h5⟩ := bnd_some h4
  refine rn_getR (pc := 21) (k := 0) okX10 (by decide) tw_427 rfl dX10_init_21 hv7 ?_
  obtain ⟨u8, hu8, h6⟩ := bnd_some h5
  refine rn_callI (pc := 24) (n := 1) (As := [rv v7]) (rest := [rv (some a5), rv (some t0)]) (eX6_init (d := d + 0) hu8) (by omega) rfl tw_119 tw_70 tw_117 tw_118 rfl (by decide +kernel) rfl (Nat.le_of_ble_eq_true rfl) dX10_init_24 rfl ?_
  obtain ⟨u9, hu9, h7⟩ := bnd_some h6
  refine rn_putR (pc := 27) (k := 1) okX10 (by decide) tw_428 (Or.inr ⟨rfl, rfl, rfl⟩) rfl dX10_init_27 hu9 ?_
  refine rn_aload_n (pc := 30) 0 dX10_init_30 rfl rfl ?_
  obtain ⟨a10, u11, ha10, h8⟩ := bnd2_some h7
  refine rn_new (pc := 31) okX7 (by decide +kernel) tw_213 tw_122 tw_71 dX10_init_31 ha10 ?_
  refine rn_dup (pc := 34) dX10_init_34 (rv_cat _) ?_
  obtain ⟨u12, hu12, h9⟩ := bnd_some h8
  refine rn_callI (pc := 35) (n := 0) (As := []) (rest := [rv (some a10), rv (some t0)]) (eX7_init (d := d + 1) hu12) (by omega) rfl tw_125 tw_71 tw_214 tw_124 rfl (by decide +kernel) rfl (Nat.le_of_ble_eq_true rfl) dX10_init_35 rfl ?_
  obtain ⟨u13, hu13, h10⟩ := bnd_some h9
  refine rn_putR (pc := 38) (k := 2) okX10 (by decide) tw_429 (Or.inr ⟨rfl, rfl, rfl⟩) rfl dX10_init_38 hu13 ?_
  refine rn_aload_n (pc := 41) 0 dX10_init_41 rfl rfl ?_
  obtain ⟨a14, u15, ha14, h11⟩ := bnd2_some h10
  refine rn_new (pc := 42) okX0 (by decide +kernel) tw_215 tw_216 tw_72 dX10_init_42 ha14 ?_
  refine rn_dup (pc := 45) dX10_init_45 (rv_cat _) ?_
  obtain ⟨u16, hu16, h12⟩ := bnd_some h11
  refine rn_callI (pc := 46) (n := 0) (As := []) (rest := [rv (some a14), rv (some t0)]) (eX0_init (d := d + 0) hu16) (by omega) rfl tw_219 tw_72 tw_217 tw_218 rfl (by decide +kernel) rfl (Nat.le_of_ble_eq_true rfl) dX10_init_46 rfl ?_
  obtain ⟨u17, hu17, h13⟩ := bnd_some h12
  refine rn_putR (pc := 49) (k := 3) okX10 (by decide) tw_430 (Or.inr ⟨rfl, rfl, rfl⟩) rfl dX10_init_49 hu17 ?_
  refine rn_aload_n (pc := 52) 0 dX10_init_52 rfl rfl ?_
  obtain ⟨a18, u19, ha18, h14⟩ := bnd2_some h13
  refine rn_new (pc := 53) okX1 (by decide +kernel) tw_288 tw_289 tw_74 dX10_init_53 ha18 ?_
  refine rn_dup (pc := 56) dX10_init_56 (rv_cat _) ?_
  refine rn_aload_n (pc := 57) 0 dX10_init_57 rfl rfl ?_
  obtain ⟨v20, hv20, h15⟩ := bnd_some h14
  refine rn_getR (pc := 58) (k := 3) okX10 (by decide) tw_430 rfl dX10_init_58 hv20 ?_
  refine rn_aload_n (pc := 61) 0 dX10_init_61 rfl rfl ?_
  obtain ⟨v21, hv21, h16⟩ := bnd_some h15
  refine rn_getR (pc := 62) (k := 2) okX10 (by decide) tw_429 rfl dX10_init_62 hv21 ?_
  obtain ⟨u22, hu22, h17⟩ := bnd_some h16
  refine rn_callI (pc := 65) (n := 2) (As := [rv v20, rv v21]) (rest := [rv (some a18), rv (some t0)]) (eX1_init (d := d + 1) hu22) (by omega) rfl tw_292 tw_74 tw_290 tw_291 rfl (by decide +kernel) rfl (Nat.le_of_ble_eq_true rfl) dX10_init_65 rfl ?_
  obtain ⟨u23, hu23, h18⟩ := bnd_some h17
  refine rn_putR (pc := 68) (k := 4) okX10 (by decide) tw_431 (Or.inr ⟨rfl, rfl, rfl⟩) rfl dX10_init_68 hu23 ?_
  refine rn_aload_n (pc := 71) 0 dX10_init_71 rfl rfl ?_
  obtain ⟨a24, u25, ha24, h19⟩ := bnd2_some h18
  refine rn_new (pc := 72) okX2 (by decide +kernel) tw_320 tw_321 tw_75 dX10_init_72 ha24 ?_
  refine rn_dup (pc := 75) dX10_init_75 (rv_cat _) ?_
  refine rn_aload_n (pc := 76) 0 dX10_init_76 rfl rfl ?_
  obtain ⟨v26, hv26, h20⟩ := bnd_some h19
  refine rn_getR (pc := 77) (k := 3) okX10 (by decide) tw_430 rfl dX10_init_77 hv26 ?_
  refine rn_aload_n (pc := 80) 0 dX10_init_80 rfl rfl ?_
  obtain ⟨v27, hv27, h21⟩ := bnd_some h20
  refine rn_getR (pc := 81) (k := 2) okX10 (by decide) tw_429 rfl dX10_init_81 hv27 ?_
  refine rn_aload_n (pc := 84) 0 dX10_init_84 rfl rfl ?_
  obtain ⟨v28, hv28, h22⟩ := bnd_some h21
  refine rn_getR (pc := 85) (k := 4) okX10 (by decide) tw_431 rfl dX10_init_85 hv28 ?_
  obtain ⟨u29, hu29, h23⟩ := bnd_some h22
  refine rn_callI (pc := 88) (n := 3) (As := [rv v26, rv v27, rv v28]) (rest := [rv (some a24), rv (some t0)]) (eX2_init (d := d + 1) hu29) (by omega) rfl tw_324 tw_75 tw_322 tw_323 rfl (by decide +kernel) rfl (Nat.le_of_ble_eq_true rfl) dX10_init_88 rfl ?_
  obtain ⟨u30, hu30, h24⟩ := bnd_some h23
  refine rn_putR (pc := 91) (k := 5) okX10 (by decide) tw_432 (Or.inr ⟨rfl, rfl, rfl⟩) rfl dX10_init_91 hu30 ?_
  refine rn_aload_n (pc := 94) 0 dX10_init_94 rfl rfl ?_
  obtain ⟨a31, u32, ha31, h25⟩ := bnd2_some h24
  refine rn_new (pc := 95) okX9 (by decide +kernel) tw_362 tw_363 tw_76 dX10_init_95 ha31 ?_
  refine rn_dup (pc := 98) dX10_init_98 (rv_cat _) ?_
  refine rn_aload_n (pc := 99) 0 dX10_init_99 rfl rfl ?_
  obtain ⟨v33, hv33, h26⟩ := bnd_some h25
  refine rn_getR (pc := 100) (k := 3) okX10 (by decide) tw_430 rfl dX10_init_100 hv33 ?_
  obtain ⟨u34, hu34, h27⟩ := bnd_some h26
  refine rn_callI (pc := 103) (n := 1) (As := [rv v33]) (rest := [rv (some a31), rv (some t0)]) (eX9_init (d := d + 1) hu34) (by omega) rfl tw_366 tw_76 tw_364 tw_365 rfl (by decide +kernel) rfl (Nat.le_of_ble_eq_true rfl) dX10_init_103 rfl ?_
  obtain ⟨u35, hu35, h28⟩ := bnd_some h27
  refine rn_putR (pc := 106) (k := 6) okX10 (by decide) tw_433 (Or.inr ⟨rfl, rfl, rfl⟩) rfl dX10_init_106 hu35 ?_
  refine rn_aload_n (pc := 109) 0 dX10_init_109 rfl rfl ?_
  obtain ⟨a36, u37, ha36, h29⟩ := bnd2_some h28
  refine rn_new (pc := 110) okX4 (by decide +kernel) tw_389 tw_390 tw_77 dX10_init_110 ha36 ?_
  refine rn_dup (pc := 113) dX10_init_113 (rv_cat _) ?_
  refine rn_aload_n (pc := 114) 0 dX10_init_114 rfl rfl ?_
  obtain ⟨v38, hv38, h30⟩ := bnd_some h29
  refine rn_getR (pc := 115) (k := 3) okX10 (by decide) tw_430 rfl dX10_init_115 hv38 ?_
  refine rn_aload_n (pc := 118) 0 dX10_init_118 rfl rfl ?_
  obtain ⟨v39, hv39, h31⟩ := bnd_some h30
  refine rn_getR (pc := 119) (k := 6) okX10 (by decide) tw_433 rfl dX10_init_119 hv39 ?_
  obtain ⟨u40, hu40, h32⟩ := bnd_some h31
  refine rn_callI (pc := 122) (n := 2) (As := [rv v38, rv v39]) (rest := [rv (some a36), rv (some t0)]) (eX4_init (d := d + 1) hu40) (by omega) rfl tw_393 tw_77 tw_391 tw_392 rfl (by decide +kernel) rfl (Nat.le_of_ble_eq_true rfl) dX10_init_122 rfl ?_
  obtain ⟨u41, hu41, h33⟩ := bnd_some h32
  refine rn_putR (pc := 125) (k := 7) okX10 (by decide) tw_434 (Or.inr ⟨rfl, rfl, rfl⟩) rfl dX10_init_125 hu41 ?_
  cases h33
  exact rn_vret (pc := 128) rfl dX10_init_128
theorem eX10_init {l : Launch} {G : Gt} {d : Nat} {t0 : Nat} {u : Mem} {y : Mem} (h : fX10_init t0 u = some y) : Ex l G iX10_init (d + 3) [rv (some t0)] u (.returned none) y := Ex.of (by decide +kernel) (by decide) (Nat.le_of_ble_eq_true rfl) rfl (tX10_init h)
