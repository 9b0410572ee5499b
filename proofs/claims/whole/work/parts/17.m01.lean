abbrev iX12_guess : MI := (yX12_guess, cX12_guess, 6, (some .int))
def bX12_guess_69 (t0 : Nat) (i1 : Int32) (i2 : Int32) (i3 : Int32) (i4 : Int32) (u : Mem) (s5 : Int32) : Option ((Int32) ⊕ ((Unit) ⊕ (Unit))) :=
  (gfI u (some t0) 12 26).bind fun v17 =>
  if s5 < v17 then
    (gfR u (some t0) 12 32).bind fun v19 =>
    (alI u v19 20 s5).bind fun v20 =>
    if v20 = i1 then
      (gfR u (some t0) 12 33).bind fun v22 =>
      (alI u v22 20 s5).bind fun v23 =>
      if v23 = i2 then
        (gfR u (some t0) 12 34).bind fun v25 =>
        (alI u v25 20 s5).bind fun v26 =>
        if i3 < v26 then
          some (.inr (.inr ()))
        else
          nm (s5 + 1 : Int32) fun x28 =>
          some (.inl x28)
      else
        nm (s5 + 1 : Int32) fun x29 =>
        some (.inl x29)
    else
      nm (s5 + 1 : Int32) fun x30 =>
      some (.inl x30)
  else
    some (.inr (.inl ()))
def fX12_guess (t0 : Nat) (p1 : Int32) (p2 : Int32) (p3 : Int32) (p4 : Int32) (u : Mem) : Option (Int32 × Mem) :=
  (fX12_isGuesser p1 u).bind fun v1 =>
  if v1 = 0 then
    some ((-2 : Int32), u)
  else
    (chk u (some t0) 12).bind fun b3 =>
    (fX12_isQuestion t0 p2 u).bind fun v4 =>
    if v4 = 0 then
      some ((-2 : Int32), u)
    else
      (gfR u (some t0) 12 28).bind fun v6 =>
      (alI u v6 20 p2).bind fun v7 =>
      (gfR u (some t0) 12 29).bind fun v8 =>
      (alI u v8 20 p2).bind fun v9 =>
      (fX12_in (Int32.toInt64 p3) (Int32.toInt64 v7) (Int32.toInt64 v9) u).bind fun v10 =>
      if v10 = 0 then
        some ((-2 : Int32), u)
      else
        (fX12_in (Int32.toInt64 p4) (0 : Int64) (10 : Int64) u).bind fun v12 =>
        if v12 = 0 then
          some ((-2 : Int32), u)
        else
          (gfR u (some t0) 12 30).bind fun v14 =>
          (alI u v14 20 p2).bind fun v15 =>
          if v15 = (3 : Int32) then
            (lp (fun s : Int32 => bX12_guess_69 t0 p1 p2 p3 p4 u s) FU (0 : Int32)).bind fun r31 =>
            sumE r31 (fun r32 =>
              (gfI u (some t0) 12 26).bind fun v34 =>
              if v34 = (300 : Int32) then
                some ((-3 : Int32), u)
              else
                (gfR u (some t0) 12 32).bind fun v36 =>
                (gfI u (some t0) 12 26).bind fun v37 =>
                (asI u v36 20 v37 p1).bind fun u38 =>
                (gfR u38 (some t0) 12 33).bind fun v39 =>
                (gfI u38 (some t0) 12 26).bind fun v40 =>
                (asI u38 v39 20 v40 p2).bind fun u41 =>
                (gfR u41 (some t0) 12 34).bind fun v42 =>
                (gfI u41 (some t0) 12 26).bind fun v43 =>
                (asI u41 v42 20 v43 p3).bind fun u44 =>
                (gfR u44 (some t0) 12 35).bind fun v45 =>
                (gfI u44 (some t0) 12 26).bind fun v46 =>
                (asI u44 v45 20 v46 p4).bind fun u47 =>
                (gfI u47 (some t0) 12 26).bind fun v48 =>
                (pfI u47 (some t0) 12 26 (v48 + (1 : Int32))).bind fun u49 =>
                (gfI u49 (some t0) 12 26).bind fun v50 =>
                some (v50 - (1 : Int32), u49)) (fun r33 =>
              some ((-4 : Int32), u))
          else
            some ((-4 : Int32), u)
abbrev iX12_heldOn : MI := (yX12_heldOn, cX12_heldOn, 6, (some .int))
def bX12_heldOn_6 (t0 : Nat) (i1 : Int32) (i2 : Int32) (i3 : Int32) (u : Mem) (s4 : Int32) (s5 : Int32) : Option ((Int32 × Int32) ⊕ (Int32)) :=
  (gfI u (some t0) 12 26).bind fun v1 =>
  if s5 < v1 then
    (gfR u (some t0) 12 32).bind fun v3 =>
    (alI u v3 20 s5).bind fun v4 =>
    if v4 = i1 then
      (gfR u (some t0) 12 33).bind fun v6 =>
      (alI u v6 20 s5).bind fun v7 =>
      if v7 = i2 then
        (gfR u (some t0) 12 34).bind fun v9 =>
        (alI u v9 20 s5).bind fun v10 =>
        if i3 < v10 then
          nm (s5 + 1 : Int32) fun x12 =>
          some (.inl (s4, x12))
        else
          (gfR u (some t0) 12 35).bind fun v13 =>
          (alI u v13 20 s5).bind fun v14 =>
          nm (s5 + 1 : Int32) fun x15 =>
          some (.inl (v14, x15))
      else
        nm (s5 + 1 : Int32) fun x16 =>
        some (.inl (s4, x16))
    else
      nm (s5 + 1 : Int32) fun x17 =>
      some (.inl (s4, x17))
  else
    some (.inr s4)
def fX12_heldOn (t0 : Nat) (p1 : Int32) (p2 : Int32) (p3 : Int32) (u : Mem) : Option (Int32) :=
  (lp (fun s : Int32 × Int32 => bX12_heldOn_6 t0 p1 p2 p3 u s.1 s.2) FU ((-1 : Int32), (0 : Int32))).bind fun r18 =>
  some r18
abbrev iX12_holds : MI := (yX12_holds, cX12_holds, 4, (some .int))
def fX12_holds (t0 : Nat) (p1 : Int32) (p2 : Int32) (p3 : Int32) (u : Mem) : Option (Int32) :=
  (fX12_isGuesser p1 u).bind fun v1 =>
  if v1 = 0 then
    some (-2 : Int32)
  else
    (chk u (some t0) 12).bind fun b3 =>
    (fX12_isQuestion t0 p2 u).bind fun v4 =>
    if v4 = 0 then
      some (-2 : Int32)
    else
      (fX12_isDay p3 u).bind fun v6 =>
      if v6 = 0 then
        some (-2 : Int32)
      else
        (chk u (some t0) 12).bind fun b8 =>
        (fX12_heldOn t0 p1 p2 p3 u).bind fun v9 =>
        some v9
abbrev iX12_about : MI := (yX12_about, cX12_about, 5, (some .int))
def bX12_about_77 (t0 : Nat) (i1 : Int32) (u : Mem) (s3 : Int32) (s4 : Int32) : Option ((Int32 × Int32) ⊕ (Int32)) :=
  (gfI u (some t0) 12 26).bind fun v17 =>
  if s4 < v17 then
    (gfR u (some t0) 12 33).bind fun v19 =>
    (alI u v19 20 s4).bind fun v20 =>
    if v20 = i1 then
      nm (s3 + (1 : Int32) : Int32) fun x22 =>
      nm (s4 + 1 : Int32) fun x23 =>
      some (.inl (x22, x23))
    else
      nm (s3 + (0 : Int32) : Int32) fun x24 =>
      nm (s4 + 1 : Int32) fun x25 =>
      some (.inl (x24, x25))
  else
    some (.inr s3)
def fX12_about (t0 : Nat) (p1 : Int32) (p2 : Int32) (u : Mem) : Option (Int32) :=
  (chk u (some t0) 12).bind fun b1 =>
  (fX12_isQuestion t0 p1 u).bind fun v2 =>
  if v2 = 0 then
    some (-1 : Int32)
  else
    if p2 = 0 then
      (gfR u (some t0) 12 28).bind fun v5 =>
      (alI u v5 20 p1).bind fun v6 =>
      some v6
    else if p2 = 1 then
        (gfR u (some t0) 12 29).bind fun v8 =>
        (alI u v8 20 p1).bind fun v9 =>
        some v9
      else if p2 = 2 then
          (gfR u (some t0) 12 30).bind fun v11 =>
          (alI u v11 20 p1).bind fun v12 =>
          some v12
        else if p2 = 3 then
            (gfR u (some t0) 12 31).bind fun v14 =>
            (alI u v14 20 p1).bind fun v15 =>
            some v15
          else if p2 = 4 then
              (lp (fun s : Int32 × Int32 => bX12_about_77 t0 p1 u s.1 s.2) FU ((0 : Int32), (0 : Int32))).bind fun r26 =>
              some r26
            else 
              some (-1 : Int32)
abbrev iX12_pair : MI := (yX12_pair, cX12_pair, 2, (some .int))
def fX12_pair (p0 : Int32) (p1 : Int32) (u : Mem) : Option (Int32) :=
  some (((20 : Int32) * p0) + p1)
abbrev iX12_heldAt : MI := (yX12_heldAt, cX12_heldAt, 4, (some .int))
def fX12_heldAt (t0 : Nat) (p1 : Int32) (p2 : Int32) (p3 : Int32) (u : Mem) : Option (Int32) :=
  (gfR u (some t0) 12 28).bind fun v1 =>
  (alI u v1 20 p2).bind fun v2 =>
  if p3 < v2 then
    some (-1 : Int32)
  else
    (gfR u (some t0) 12 39).bind fun v4 =>
    (fX12_pair p1 p2 u).bind fun v5 =>
    (gfR u (some t0) 12 29).bind fun v6 =>
    (alI u v6 20 p2).bind fun v7 =>
    (gfR u (some t0) 12 28).bind fun v8 =>
    (alI u v8 20 p2).bind fun v9 =>
    (alI u v4 20 ((((60 : Int32) * v5) + (mnI p3 v7)) - v9)).bind fun v10 =>
    some v10
abbrev iX12_cost : MI := (yX12_cost, cX12_cost, 3, (some .int))
def fX12_cost (t0 : Nat) (p1 : Int32) (p2 : Int32) (u : Mem) : Option (Int32) :=
  (gfR u (some t0) 12 30).bind fun v1 =>
  (alI u v1 20 p1).bind fun v2 =>
  if v2 = (1 : Int32) then
    (gfR u (some t0) 12 10).bind fun v4 =>
    (alI u v4 20 p2).bind fun v5 =>
    some v5
  else
    (gfR u (some t0) 12 11).bind fun v6 =>
    (alI u v6 20 p2).bind fun v7 =>
    some v7
abbrev iX12_isKnown : MI := (yX12_isKnown, cX12_isKnown, 2, (some .boolean))
def fX12_isKnown (t0 : Nat) (p1 : Int32) (u : Mem) : Option (Int32) :=
  (gfR u (some t0) 12 30).bind fun v1 =>
  (alI u v1 20 p1).bind fun v2 =>
  if v2 < (2 : Int32) then
    some (1 : Int32)
  else
    some (0 : Int32)
abbrev iX12_rowOn : MI := (yX12_rowOn, cX12_rowOn, 5, (some .int))
def jX12_rowOn_53 (w0 : Int32) (w1 : Int32) (w2 : Nat) (u : Mem) : Option (Int32) :=
  (chk u (some w2) 12).bind fun b11 =>
  (fX12_cost w2 w1 w0 u).bind fun v12 =>
  some v12
def jX12_rowOn_39 (t0 : Nat) (p2 : Int32) (p4 : Int32) (u : Mem) : Option (Int32) :=
  if p4 = (-1 : Int32) then
    jX12_rowOn_53 (5 : Int32) p2 t0 u
  else
    jX12_rowOn_53 p4 p2 t0 u
def fX12_rowOn (t0 : Nat) (p1 : Int32) (p2 : Int32) (p3 : Int32) (u : Mem) : Option (Int32) :=
  (gfR u (some t0) 12 43).bind fun v1 =>
  (fX12_pair p1 p2 u).bind fun v2 =>
  (alI u v1 22 v2).bind fun v3 =>
  if v3 = 0 then
    some (-1 : Int32)
  else
    (chk u (some t0) 12).bind fun b5 =>
    (fX12_heldAt t0 p1 p2 p3 u).bind fun v6 =>
    if v6 = (-1 : Int32) then
      (gfI u (some t0) 12 0).bind fun v8 =>
      if v8 = 0 then
        some (-1 : Int32)
      else
        jX12_rowOn_39 t0 p2 v6 u
    else
      jX12_rowOn_39 t0 p2 v6 u
abbrev iX12_lastDay : MI := (yX12_lastDay, cX12_lastDay, 2, (some .int))
def fX12_lastDay (t0 : Nat) (p1 : Int32) (u : Mem) : Option (Int32) :=
  (gfR u (some t0) 12 29).bind fun v1 =>
  (alI u v1 20 p1).bind fun v2 =>
  (gfR u (some t0) 12 31).bind fun v3 =>
  (alI u v3 20 p1).bind fun v4 =>
  some (mnI v2 (v4 - (1 : Int32)))
abbrev iX12_sumRows : MI := (yX12_sumRows, cX12_sumRows, 6, (Option.none : Option FieldType))
def bX12_sumRows_14 (t0 : Nat) (i1 : Int32) (i2 : Int32) (i3 : Int32) (s4 : Int32) (u : Mem) : Option ((Int32 × Mem) ⊕ (Mem)) :=
  (chk u (some t0) 12).bind fun b4 =>
  (fX12_lastDay t0 i2 u).bind fun v5 =>
  if v5 < s4 then
    some (.inr u)
  else
    (chk u (some t0) 12).bind fun b7 =>
    (fX12_rowOn t0 i1 i2 s4 u).bind fun v8 =>
    if v8 = (-1 : Int32) then
      nm (s4 + 1 : Int32) fun x10 =>
      some (.inl (x10, u))
    else
      (gfR u (some t0) 12 40).bind fun v11 =>
      (alI u v11 20 i3).bind fun v12 =>
      (asI u v11 20 i3 ((v12 + (1 : Int32)))).bind fun u13 =>
      (gfR u13 (some t0) 12 41).bind fun v14 =>
      (alI u13 v14 20 i3).bind fun v15 =>
      (asI u13 v14 20 i3 ((v15 + v8))).bind fun u16 =>
      (gfR u16 (some t0) 12 42).bind fun v17 =>
      (alI u16 v17 20 i3).bind fun v18 =>
      (chk u16 (some t0) 12).bind fun b19 =>
      (fX12_cost t0 i2 (5 : Int32) u16).bind fun v20 =>
      (asI u16 v17 20 i3 ((v18 + v20))).bind fun u21 =>
      nm (s4 + 1 : Int32) fun x22 =>
      some (.inl (x22, u21))
def fX12_sumRows (t0 : Nat) (p1 : Int32) (p2 : Int32) (u : Mem) : Option (Mem) :=
  (fX12_pair p1 p2 u).bind fun v1 =>
  (gfR u (some t0) 12 28).bind fun v2 =>
  (alI u v2 20 p2).bind fun v3 =>
  (lp (fun s : Int32 × Mem => bX12_sumRows_14 t0 p1 p2 v1 s.1 s.2) FU (v3, u)).bind fun r23 =>
  some r23
abbrev iX12_prepare : MI := (yX12_prepare, cX12_prepare, 4, (Option.none : Option FieldType))
def bX12_prepare_2 (t0 : Nat) (s1 : Int32) (u : Mem) : Option ((Int32 × Mem) ⊕ (Mem)) :=
  if s1 < (400 : Int32) then
    (gfR u (some t0) 12 43).bind fun v2 =>
    (asI u v2 22 s1 (((0 : Int32) &&& 1))).bind fun u3 =>
    (gfR u3 (some t0) 12 40).bind fun v4 =>
    (asI u3 v4 20 s1 (0 : Int32)).bind fun u5 =>
    (gfR u5 (some t0) 12 41).bind fun v6 =>
    (asI u5 v6 20 s1 (0 : Int32)).bind fun u7 =>
    (gfR u7 (some t0) 12 42).bind fun v8 =>
    (asI u7 v8 20 s1 (0 : Int32)).bind fun u9 =>
    nm (s1 + 1 : Int32) fun x10 =>
    some (.inl (x10, u9))
  else
    some (.inr u)
def bX12_prepare_45 (t0 : Nat) (s1 : Int32) (u : Mem) : Option ((Int32 × Mem) ⊕ (Mem)) :=
  if s1 < (24000 : Int32) then
    (gfR u (some t0) 12 39).bind fun v13 =>
    (asI u v13 20 s1 (-1 : Int32)).bind fun u14 =>
    nm (s1 + 1 : Int32) fun x15 =>
    some (.inl (x15, u14))
  else
    some (.inr u)
def bX12_prepare_105 (t0 : Nat) (i1 : Int32) (i2 : Int32) (s3 : Int32) (u : Mem) : Option ((Int32 × Mem) ⊕ (Mem)) :=
  (gfR u (some t0) 12 29).bind fun v28 =>
  (gfR u (some t0) 12 33).bind fun v29 =>
  (alI u v29 20 i1).bind fun v30 =>
  (alI u v28 20 v30).bind fun v31 =>
  if v31 < s3 then
    some (.inr u)
  else
    (gfR u (some t0) 12 39).bind fun v33 =>
    (gfR u (some t0) 12 28).bind fun v34 =>
    (gfR u (some t0) 12 33).bind fun v35 =>
    (alI u v35 20 i1).bind fun v36 =>
    (alI u v34 20 v36).bind fun v37 =>
    (gfR u (some t0) 12 35).bind fun v38 =>
    (alI u v38 20 i1).bind fun v39 =>
    (asI u v33 20 ((((60 : Int32) * i2) + s3) - v37) v39).bind fun u40 =>
    nm (s3 + 1 : Int32) fun x41 =>
    some (.inl (x41, u40))
def bX12_prepare_67 (t0 : Nat) (s1 : Int32) (u : Mem) : Option ((Int32 × Mem) ⊕ (Mem)) :=
  (gfI u (some t0) 12 26).bind fun v17 =>
  if s1 < v17 then
    (gfR u (some t0) 12 32).bind fun v19 =>
    (alI u v19 20 s1).bind fun v20 =>
    (gfR u (some t0) 12 33).bind fun v21 =>
    (alI u v21 20 s1).bind fun v22 =>
    (fX12_pair v20 v22 u).bind fun v23 =>
    (gfR u (some t0) 12 43).bind fun v24 =>
    (asI u v24 22 v23 (((1 : Int32) &&& 1))).bind fun u25 =>
    (gfR u25 (some t0) 12 34).bind fun v26 =>
    (alI u25 v26 20 s1).bind fun v27 =>
    (lp (fun s : Int32 × Mem => bX12_prepare_105 t0 s1 v23 s.1 s.2) FU (v27, u25)).bind fun r42 =>
    nm (s1 + 1 : Int32) fun x43 =>
    some (.inl (x43, r42))
  else
    some (.inr u)
def bX12_prepare_171 (t0 : Nat) (i1 : Int32) (s2 : Int32) (u : Mem) : Option ((Int32 × Mem) ⊕ (Mem)) :=
  (gfI u (some t0) 12 25).bind fun v46 =>
  if s2 < v46 then
    (chk u (some t0) 12).bind fun b48 =>
    (fX12_isKnown t0 s2 u).bind fun v49 =>
    if v49 = 0 then
      nm (s2 + 1 : Int32) fun x51 =>
      some (.inl (x51, u))
    else
      (chk u (some t0) 12).bind fun b52 =>
      (fX12_sumRows t0 i1 s2 u).bind fun u53 =>
      nm (s2 + 1 : Int32) fun x54 =>
      some (.inl (x54, u53))
  else
    some (.inr u)
def bX12_prepare_163 (t0 : Nat) (s1 : Int32) (u : Mem) : Option ((Int32 × Mem) ⊕ (Mem)) :=
  if s1 < (20 : Int32) then
    (lp (fun s : Int32 × Mem => bX12_prepare_171 t0 s1 s.1 s.2) FU ((0 : Int32), u)).bind fun r55 =>
    nm (s1 + 1 : Int32) fun x56 =>
    some (.inl (x56, r55))
  else
    some (.inr u)
def fX12_prepare (t0 : Nat) (u : Mem) : Option (Mem) :=
  (lp (fun s : Int32 × Mem => bX12_prepare_2 t0 s.1 s.2) FU ((0 : Int32), u)).bind fun r11 =>
  (lp (fun s : Int32 × Mem => bX12_prepare_45 t0 s.1 s.2) FU ((0 : Int32), r11)).bind fun r16 =>
  (lp (fun s : Int32 × Mem => bX12_prepare_67 t0 s.1 s.2) FU ((0 : Int32), r16)).bind fun r44 =>
  (lp (fun s : Int32 × Mem => bX12_prepare_163 t0 s.1 s.2) FU ((0 : Int32), r44)).bind fun r57 =>
  some r57
abbrev iX12_counts : MI := (yX12_counts, cX12_counts, 3, (some .boolean))
def fX12_counts (t0 : Nat) (p1 : Int32) (p2 : Int32) (u : Mem) : Option (Int32) :=
  (chk u (some t0) 12).bind fun b1 =>
  (fX12_isKnown t0 p2 u).bind fun v2 =>
  if v2 = 0 then
    some (0 : Int32)
  else
    (gfR u (some t0) 12 40).bind fun v4 =>
    (fX12_pair p1 p2 u).bind fun v5 =>
    (alI u v4 20 v5).bind fun v6 =>
    (gfI u (some t0) 12 4).bind fun v7 =>
    if v6 < v7 then
      some (0 : Int32)
    else
      some (1 : Int32)
abbrev iX12_findCopies : MI := (yX12_findCopies, cX12_findCopies, 5, (Option.none : Option FieldType))
def bX12_findCopies_23 (t0 : Nat) (i1 : Int32) (i2 : Int32) (u : Mem) (s3 : Int32) (s4 : Int32) : Option ((Int32 × Int32) ⊕ (Int32)) :=
  (gfI u (some t0) 12 26).bind fun v4 =>
  if s4 < v4 then
    (gfR u (some t0) 12 32).bind fun v6 =>
    (alI u v6 20 i1).bind fun v7 =>
    if i2 = v7 then
      some (.inr s3)
    else
      (gfR u (some t0) 12 32).bind fun v9 =>
      (alI u v9 20 s4).bind fun v10 =>
      if v10 = i2 then
        (gfR u (some t0) 12 33).bind fun v12 =>
        (alI u v12 20 s4).bind fun v13 =>
        (gfR u (some t0) 12 33).bind fun v14 =>
        (alI u v14 20 i1).bind fun v15 =>
        if v13 = v15 then
          (gfR u (some t0) 12 34).bind fun v17 =>
          (alI u v17 20 s4).bind fun v18 =>
          (gfR u (some t0) 12 34).bind fun v19 =>
          (alI u v19 20 i1).bind fun v20 =>
          if v18 < v20 then
            if s3 = (-1 : Int32) then
              nm (s4 + 1 : Int32) fun x23 =>
              some (.inl (s4, x23))
            else
              (gfR u (some t0) 12 34).bind fun v24 =>
              (alI u v24 20 s4).bind fun v25 =>
              (gfR u (some t0) 12 34).bind fun v26 =>
              (alI u v26 20 s3).bind fun v27 =>
              if v25 < v27 then
                nm (s4 + 1 : Int32) fun x29 =>
                some (.inl (s3, x29))
              else
                nm (s4 + 1 : Int32) fun x30 =>
                some (.inl (s4, x30))
          else
            nm (s4 + 1 : Int32) fun x31 =>
            some (.inl (s3, x31))
        else
          nm (s4 + 1 : Int32) fun x32 =>
          some (.inl (s3, x32))
      else
        nm (s4 + 1 : Int32) fun x33 =>
        some (.inl (s3, x33))
  else
    some (.inr s3)
def jX12_findCopies_12_115 (t0 : Nat) (i1 : Int32) (p2 : Int32) (p3 : Int32) (u : Mem) : Option ((Int32 × Mem) ⊕ (Mem)) :=
  (gfR u (some t0) 12 44).bind fun v35 =>
  if p3 = (-1 : Int32) then
    (asI u v35 22 (((20 : Int32) * i1) + p2) (((0 : Int32) &&& 1))).bind fun u37 =>
    nm (p2 + 1 : Int32) fun x38 =>
    some (.inl (x38, u37))
  else
    (gfR u (some t0) 12 35).bind fun v39 =>
    (alI u v39 20 p3).bind fun v40 =>
    (gfR u (some t0) 12 35).bind fun v41 =>
    (alI u v41 20 i1).bind fun v42 =>
    if v40 = v42 then
      (gfR u (some t0) 12 34).bind fun v44 =>
      (alI u v44 20 i1).bind fun v45 =>
      (gfR u (some t0) 12 34).bind fun v46 =>
      (alI u v46 20 p3).bind fun v47 =>
      (gfI u (some t0) 12 2).bind fun v48 =>
      if v48 < (v45 - v47) then
        (asI u v35 22 (((20 : Int32) * i1) + p2) (((0 : Int32) &&& 1))).bind fun u50 =>
        nm (p2 + 1 : Int32) fun x51 =>
        some (.inl (x51, u50))
      else
        (asI u v35 22 (((20 : Int32) * i1) + p2) (((1 : Int32) &&& 1))).bind fun u52 =>
        nm (p2 + 1 : Int32) fun x53 =>
        some (.inl (x53, u52))
    else
      (asI u v35 22 (((20 : Int32) * i1) + p2) (((0 : Int32) &&& 1))).bind fun u54 =>
      nm (p2 + 1 : Int32) fun x55 =>
      some (.inl (x55, u54))
def bX12_findCopies_12 (t0 : Nat) (i1 : Int32) (s2 : Int32) (u : Mem) : Option ((Int32 × Mem) ⊕ (Mem)) :=
  if s2 < (20 : Int32) then
    (lp (fun s : Int32 × Int32 => bX12_findCopies_23 t0 i1 s2 u s.1 s.2) FU ((-1 : Int32), (0 : Int32))).bind fun r34 =>
    jX12_findCopies_12_115 t0 i1 s2 r34 u
  else
    some (.inr u)
def bX12_findCopies_2 (t0 : Nat) (s1 : Int32) (u : Mem) : Option ((Int32 × Mem) ⊕ (Mem)) :=
  (gfI u (some t0) 12 26).bind fun v1 =>
  if s1 < v1 then
    (lp (fun s : Int32 × Mem => bX12_findCopies_12 t0 s1 s.1 s.2) FU ((0 : Int32), u)).bind fun r56 =>
    nm (s1 + 1 : Int32) fun x57 =>
    some (.inl (x57, r56))
  else
    some (.inr u)
def fX12_findCopies (t0 : Nat) (u : Mem) : Option (Mem) :=
  (lp (fun s : Int32 × Mem => bX12_findCopies_2 t0 s.1 s.2) FU ((0 : Int32), u)).bind fun r58 =>
  some r58
abbrev iX12_copiesOf : MI := (yX12_copiesOf, cX12_copiesOf, 6, (some .int))
def bX12_copiesOf_6 (t0 : Nat) (i1 : Int32) (i2 : Int32) (i3 : Int32) (u : Mem) (s4 : Int32) (s5 : Int32) : Option ((Int32 × Int32) ⊕ (Int32)) :=
  (gfI u (some t0) 12 26).bind fun v1 =>
  if s5 < v1 then
    (gfR u (some t0) 12 32).bind fun v3 =>
    (alI u v3 20 s5).bind fun v4 =>
    if v4 = i1 then
      (gfR u (some t0) 12 34).bind fun v6 =>
      (alI u v6 20 s5).bind fun v7 =>
      if i3 < v7 then
        nm (s4 + (0 : Int32) : Int32) fun x9 =>
        nm (s5 + 1 : Int32) fun x10 =>
        some (.inl (x9, x10))
      else
        (gfR u (some t0) 12 44).bind fun v11 =>
        (alI u v11 22 (((20 : Int32) * s5) + i2)).bind fun v12 =>
        if v12 = 0 then
          nm (s4 + (0 : Int32) : Int32) fun x14 =>
          nm (s5 + 1 : Int32) fun x15 =>
          some (.inl (x14, x15))
        else
          nm (s4 + (1 : Int32) : Int32) fun x16 =>
          nm (s5 + 1 : Int32) fun x17 =>
          some (.inl (x16, x17))
    else
      nm (s4 + (0 : Int32) : Int32) fun x18 =>
      nm (s5 + 1 : Int32) fun x19 =>
      some (.inl (x18, x19))
  else
    some (.inr s4)
def fX12_copiesOf (t0 : Nat) (p1 : Int32) (p2 : Int32) (p3 : Int32) (u : Mem) : Option (Int32) :=
  (lp (fun s : Int32 × Int32 => bX12_copiesOf_6 t0 p1 p2 p3 u s.1 s.2) FU ((0 : Int32), (0 : Int32))).bind fun r20 =>
  some r20
abbrev iX12_rows : MI := (yX12_rows, cX12_rows, 4, (some .int))
def fX12_rows (t0 : Nat) (p1 : Int32) (p2 : Int32) (p3 : Int32) (u : Mem) : Option (Int32 × Mem) :=
  (fX12_isGuesser p1 u).bind fun v1 =>
  if v1 = 0 then
    some ((-2 : Int32), u)
  else
    (chk u (some t0) 12).bind fun b3 =>
    (fX12_isQuestion t0 p2 u).bind fun v4 =>
    if v4 = 0 then
      some ((-2 : Int32), u)
    else
      (fX12_in (Int32.toInt64 p3) (0 : Int64) (1 : Int64) u).bind fun v6 =>
      if v6 = 0 then
        some ((-2 : Int32), u)
      else
        (chk u (some t0) 12).bind fun b8 =>
        (fX12_prepare t0 u).bind fun u9 =>
        if p3 = 0 then
          (gfR u9 (some t0) 12 40).bind fun v11 =>
          (fX12_pair p1 p2 u9).bind fun v12 =>
          (alI u9 v11 20 v12).bind fun v13 =>
          some (v13, u9)
        else
          (gfR u9 (some t0) 12 41).bind fun v14 =>
          (fX12_pair p1 p2 u9).bind fun v15 =>
          (alI u9 v14 20 v15).bind fun v16 =>
          some (v16, u9)
abbrev iX12_findMean : MI := (yX12_findMean, cX12_findMean, 3, (Option.none : Option FieldType))
def bX12_findMean_12 (t0 : Nat) (i1 : Int32) (s2 : Int32) (u : Mem) : Option ((Int32 × Mem) ⊕ (Mem)) :=
  (gfI u (some t0) 12 25).bind fun v3 =>
  if s2 < v3 then
    (chk u (some t0) 12).bind fun b5 =>
    (fX12_counts t0 i1 s2 u).bind fun v6 =>
    if v6 = 0 then
      nm (s2 + 1 : Int32) fun x8 =>
      some (.inl (x8, u))
    else
      (gfI u (some t0) 12 45).bind fun v9 =>
      (gfR u (some t0) 12 41).bind fun v10 =>
      (fX12_pair i1 s2 u).bind fun v11 =>
      (alI u v10 20 v11).bind fun v12 =>
      (pfI u (some t0) 12 45 (v9 + v12)).bind fun u13 =>
      (gfI u13 (some t0) 12 46).bind fun v14 =>
      (gfR u13 (some t0) 12 40).bind fun v15 =>
      (fX12_pair i1 s2 u13).bind fun v16 =>
      (alI u13 v15 20 v16).bind fun v17 =>
      (pfI u13 (some t0) 12 46 (v14 + v17)).bind fun u18 =>
      nm (s2 + 1 : Int32) fun x19 =>
      some (.inl (x19, u18))
  else
    some (.inr u)
def fX12_findMean (t0 : Nat) (p1 : Int32) (u : Mem) : Option (Mem) :=
  (pfI u (some t0) 12 45 (0 : Int32)).bind fun u1 =>
  (pfI u1 (some t0) 12 46 (0 : Int32)).bind fun u2 =>
  (lp (fun s : Int32 × Mem => bX12_findMean_12 t0 p1 s.1 s.2) FU ((0 : Int32), u2)).bind fun r20 =>
  some r20
abbrev iX12_common : MI := (yX12_common, cX12_common, 5, (some .int))
def bX12_common_4 (u : Mem) (s2 : Int32) (s3 : Int32) : Option ((Int32 × Int32) ⊕ (Int32)) :=
  if s3 = 0 then
    some (.inr s2)
  else
    (nz32 s3).bind fun z2 =>
    nm (s2 - s2 / s3 * s3 : Int32) fun x3 =>
    some (.inl (s3, x3))
def fX12_common (p0 : Int32) (p1 : Int32) (u : Mem) : Option (Int32) :=
  (lp (fun s : Int32 × Int32 => bX12_common_4 u s.1 s.2) FU (p0, p1)).bind fun r4 =>
  some r4
abbrev iX12_mean : MI := (yX12_mean, cX12_mean, 4, (some .int))
def fX12_mean (t0 : Nat) (p1 : Int32) (p2 : Int32) (u : Mem) : Option (Int32 × Mem) :=
  (fX12_isGuesser p1 u).bind fun v1 =>
  if v1 = 0 then
    some ((-2 : Int32), u)
  else
    (fX12_in (Int32.toInt64 p2) (0 : Int64) (1 : Int64) u).bind fun v3 =>
    if v3 = 0 then
      some ((-2 : Int32), u)
    else
      (chk u (some t0) 12).bind fun b5 =>
      (fX12_prepare t0 u).bind fun u6 =>
      (chk u6 (some t0) 12).bind fun b7 =>
      (fX12_findMean t0 p1 u6).bind fun u8 =>
      (gfI u8 (some t0) 12 46).bind fun v9 =>
      if v9 = 0 then
        some ((0 : Int32), u8)
      else
        (gfI u8 (some t0) 12 45).bind fun v11 =>
        (gfI u8 (some t0) 12 46).bind fun v12 =>
        (fX12_common v11 v12 u8).bind fun v13 =>
        if p2 = 0 then
          (gfI u8 (some t0) 12 45).bind fun v15 =>
          (nz32 v13).bind fun z16 =>
          some (v15 / v13, u8)
        else
          (gfI u8 (some t0) 12 46).bind fun v17 =>
          (nz32 v13).bind fun z18 =>
          some (v17 / v13, u8)
abbrev iX12_findMeans : MI := (yX12_findMeans, cX12_findMeans, 2, (Option.none : Option FieldType))
def bX12_findMeans_6 (t0 : Nat) (s1 : Int32) (u : Mem) : Option ((Int32 × Mem) ⊕ (Mem)) :=
  if s1 < (20 : Int32) then
    (chk u (some t0) 12).bind fun b4 =>
    (fX12_findMean t0 s1 u).bind fun u5 =>
    (gfR u5 (some t0) 12 47).bind fun v6 =>
    (gfI u5 (some t0) 12 45).bind fun v7 =>
    (asI u5 v6 20 s1 v7).bind fun u8 =>
    (gfR u8 (some t0) 12 48).bind fun v9 =>
    (gfI u8 (some t0) 12 46).bind fun v10 =>
    (asI u8 v9 20 s1 v10).bind fun u11 =>
    nm (s1 + 1 : Int32) fun x12 =>
    some (.inl (x12, u11))
  else
    some (.inr u)
def fX12_findMeans (t0 : Nat) (u : Mem) : Option (Mem) :=
  (chk u (some t0) 12).bind fun b1 =>
  (fX12_prepare t0 u).bind fun u2 =>
  (lp (fun s : Int32 × Mem => bX12_findMeans_6 t0 s.1 s.2) FU ((0 : Int32), u2)).bind fun r13 =>
  some r13
abbrev iX12_ranked : MI := (yX12_ranked, cX12_ranked, 9, (some .int))
def bX12_ranked_29 (t0 : Nat) (i1 : Int32) (i2 : Int32) (u : Mem) (s3 : Int32) (s4 : Int32) : Option ((Int32 × Int32) ⊕ (Int32)) :=
  if s4 < (20 : Int32) then
    (gfR u (some t0) 12 48).bind fun v9 =>
    (alI u v9 20 s4).bind fun v10 =>
    if v10 = 0 then
      nm (s4 + 1 : Int32) fun x12 =>
      some (.inl (s3, x12))
    else
      if s4 = i2 then
        nm (s4 + 1 : Int32) fun x14 =>
        some (.inl (s3, x14))
      else
        (gfR u (some t0) 12 47).bind fun v15 =>
        (alI u v15 20 s4).bind fun v16 =>
        (gfR u (some t0) 12 48).bind fun v17 =>
        (alI u v17 20 i2).bind fun v18 =>
        nm ((Int32.toInt64 v16) * (Int32.toInt64 v18) : Int64) fun x19 =>
        (gfR u (some t0) 12 47).bind fun v20 =>
        (alI u v20 20 i2).bind fun v21 =>
        (gfR u (some t0) 12 48).bind fun v22 =>
        (alI u v22 20 s4).bind fun v23 =>
        nm ((Int32.toInt64 v21) * (Int32.toInt64 v23) : Int64) fun x24 =>
        if (lg_cmp x19 x24) < 0 then
          nm (s3 + (1 : Int32) : Int32) fun x26 =>
          nm (s4 + 1 : Int32) fun x27 =>
          some (.inl (x26, x27))
        else
          if (lg_cmp x19 x24) = 0 then
            if s4 < i2 then
              nm (s3 + (1 : Int32) : Int32) fun x30 =>
              nm (s4 + 1 : Int32) fun x31 =>
              some (.inl (x30, x31))
            else
              nm (s3 + (0 : Int32) : Int32) fun x32 =>
              nm (s4 + 1 : Int32) fun x33 =>
              some (.inl (x32, x33))
          else
            nm (s3 + (0 : Int32) : Int32) fun x34 =>
            nm (s4 + 1 : Int32) fun x35 =>
            some (.inl (x34, x35))
  else
    some (.inr s3)
def bX12_ranked_6 (t0 : Nat) (i1 : Int32) (u : Mem) (s2 : Int32) : Option ((Int32) ⊕ ((Unit) ⊕ (Int32))) :=
  if s2 < (20 : Int32) then
    (gfR u (some t0) 12 48).bind fun v4 =>
    (alI u v4 20 s2).bind fun v5 =>
    if v5 = 0 then
      nm (s2 + 1 : Int32) fun x7 =>
      some (.inl x7)
    else
      (lp (fun s : Int32 × Int32 => bX12_ranked_29 t0 i1 s2 u s.1 s.2) FU ((0 : Int32), (0 : Int32))).bind fun r36 =>
      if r36 = i1 then
        some (.inr (.inr s2))
      else
        nm (s2 + 1 : Int32) fun x38 =>
        some (.inl x38)
  else
    some (.inr (.inl ()))
def fX12_ranked (t0 : Nat) (p1 : Int32) (u : Mem) : Option (Int32 × Mem) :=
  (chk u (some t0) 12).bind fun b1 =>
  (fX12_findMeans t0 u).bind fun u2 =>
  (lp (fun s : Int32 => bX12_ranked_6 t0 p1 u2 s) FU (0 : Int32)).bind fun r39 =>
  sumE r39 (fun r40 =>
    some ((-1 : Int32), u2)) (fun r41 =>
    some (r41, u2))
theorem btX12_guess_69 {l : Launch} {G : Gt} {d : Nat} {t0 : Nat} {i1 : Int32} {i2 : Int32} {i3 : Int32} {i4 : Int32} {u : Mem} {s5 : Int32} {y : (Int32) ⊕ ((Unit) ⊕ (Unit))} {o : Outcome} {u' : Mem} (h : bX12_guess_69 t0 i1 i2 i3 i4 u s5 = some y) (k0 : ∀ s' : Int32, y = .inl s' → Rn l G iX12_guess (d + 2) 69 [(0, rv (some t0)), (1, .int i1), (2, .int i2), (3, .int i3), (4, .int i4), (5, .int s')] [] u o u') (k1 : ∀ r : Unit, y = .inr (.inl r) → Rn l G iX12_guess (d + 2) 120 [(0, rv (some t0)), (1, .int i1), (2, .int i2), (3, .int i3), (4, .int i4)] [] u o u') (k2 : ∀ r : Unit, y = .inr (.inr (r)) → Rn l G iX12_guess (d + 2) 111 [] [] u o u') : Rn l G iX12_guess (d + 2) 69 [(0, rv (some t0)), (1, .int i1), (2, .int i2), (3, .int i3), (4, .int i4), (5, .int s5)] [] u o u' := by
  unfold bX12_guess_69 at h
  refine rn_iload (pc := 69) 5 dX12_guess_69 rfl ?_
  refine rn_aload_n (pc := 71) 0 dX12_guess_71 rfl rfl ?_
  obtain ⟨v17, hv17, h1⟩ := bnd_some h
  refine rn_getI (pc := 72) (k := 26) okX12 (by decide) tw_1019 rfl dX12_guess_72 hv17 ?_
  rcases if_elim h1 with ⟨c18, h2⟩ | ⟨c18, h2⟩
  · refine rn_ige_f (pc := 75) 120 dX12_guess_75 (by decide) c18 ?_
    refine rn_aload_n (pc := 78) 0 dX12_guess_78 rfl rfl ?_
    obtain ⟨v19, hv19, h3⟩ := bnd_some h2
    refine rn_getR (pc := 79) (k := 32) okX12 (by decide) tw_1025 rfl dX12_guess_79 hv19 ?_
    refine rn_iload (pc := 82) 5 dX12_guess_82 rfl ?_
    obtain ⟨v20, hv20, h4⟩ := bnd_some h3
    refine rn_iald (pc := 84) dX12_guess_84 hv20 ?_
    refine rn_iload_n (pc := 85) 1 dX12_guess_85 rfl rfl ?_
    rcases if_elim h4 with ⟨c21, h5⟩ | ⟨c21, h5⟩
    · refine rn_ine_f (pc := 86) 114 dX12_guess_86 (by decide) c21 ?_
      refine rn_aload_n (pc := 89) 0 dX12_guess_89 rfl rfl ?_
      obtain ⟨v22, hv22, h6⟩ := bnd_some h5
      refine rn_getR (pc := 90) (k := 33) okX12 (by decide) tw_1026 rfl dX12_guess_90 hv22 ?_
      refine rn_iload (pc := 93) 5 dX12_guess_93 rfl ?_
      obtain ⟨v23, hv23, h7⟩ := bnd_some h6
      refine rn_iald (pc := 95) dX12_guess_95 hv23 ?_
      refine rn_iload_n (pc := 96) 2 dX12_guess_96 rfl rfl ?_
      rcases if_elim h7 with ⟨c24, h8⟩ | ⟨c24, h8⟩
      · refine rn_ine_f (pc := 97) 114 dX12_guess_97 (by decide) c24 ?_
        refine rn_aload_n (pc := 100) 0 dX12_guess_100 rfl rfl ?_
        obtain ⟨v25, hv25, h9⟩ := bnd_some h8
        refine rn_getR (pc := 101) (k := 34) okX12 (by decide) tw_1027 rfl dX12_guess_101 hv25 ?_
        refine rn_iload (pc := 104) 5 dX12_guess_104 rfl ?_
        obtain ⟨v26, hv26, h10⟩ := bnd_some h9
        refine rn_iald (pc := 106) dX12_guess_106 hv26 ?_
        refine rn_iload_n (pc := 107) 3 dX12_guess_107 rfl rfl ?_
        rcases if_elim h10 with ⟨c27, h11⟩ | ⟨c27, h11⟩
        · refine rn_ile_f (pc := 108) 114 dX12_guess_108 (by decide) c27 ?_
          cases h11
          exact rn_sub [] rfl (k2 _ rfl)
        · refine rn_ile_t (pc := 108) (tgt := 114) dX12_guess_108 (by decide) c27 ?_
          obtain ⟨x28, ex28, h12⟩ := nm_elim h11
          refine rn_iinc (pc := 114) (v := x28) (lv' := [(5, .int x28), (0, rv (some t0)), (1, .int i1), (2, .int i2), (3, .int i3), (4, .int i4)]) 5 dX12_guess_114 rfl (by rw [ex28]; rfl) (by decide) rfl ?_
          refine rn_goto (pc := 117) (tgt := 69) dX12_guess_117 (by decide) ?_
          cases h12
          exact rn_sub [1, 2, 3, 4, 5, 0] rfl (k0 _ rfl)
      · refine rn_ine_t (pc := 97) (tgt := 114) dX12_guess_97 (by decide) c24 ?_
        obtain ⟨x29, ex29, h13⟩ := nm_elim h8
        refine rn_iinc (pc := 114) (v := x29) (lv' := [(5, .int x29), (0, rv (some t0)), (1, .int i1), (2, .int i2), (3, .int i3), (4, .int i4)]) 5 dX12_guess_114 rfl (by rw [ex29]; rfl) (by decide) rfl ?_
        refine rn_goto (pc := 117) (tgt := 69) dX12_guess_117 (by decide) ?_
        cases h13
        exact rn_sub [1, 2, 3, 4, 5, 0] rfl (k0 _ rfl)
    · refine rn_ine_t (pc := 86) (tgt := 114) dX12_guess_86 (by decide) c21 ?_
      obtain ⟨x30, ex30, h14⟩ := nm_elim h5
      refine rn_iinc (pc := 114) (v := x30) (lv' := [(5, .int x30), (0, rv (some t0)), (1, .int i1), (2, .int i2), (3, .int i3), (4, .int i4)]) 5 dX12_guess_114 rfl (by rw [ex30]; rfl) (by decide) rfl ?_
      refine rn_goto (pc := 117) (tgt := 69) dX12_guess_117 (by decide) ?_
      cases h14
      exact rn_sub [1, 2, 3, 4, 5, 0] rfl (k0 _ rfl)
  · refine rn_ige_t (pc := 75) (tgt := 120) dX12_guess_75 (by decide) c18 ?_
    cases h2
    exact rn_sub [0, 1, 2, 3, 4] rfl (k1 _ rfl)
theorem lX12_guess_69 {l : Launch} {G : Gt} {d : Nat} {t0 : Nat} {i1 : Int32} {i2 : Int32} {i3 : Int32} {i4 : Int32} {u : Mem} {N : Nat} {s0 : Int32} {r : (Unit) ⊕ (Unit)} {o : Outcome} {u' : Mem} (h : lp (fun s : Int32 => bX12_guess_69 t0 i1 i2 i3 i4 u s) N s0 = some r) (k1 : ∀ r' : Unit, r = .inl r' → Rn l G iX12_guess (d + 2) 120 [(0, rv (some t0)), (1, .int i1), (2, .int i2), (3, .int i3), (4, .int i4)] [] u o u') (k2 : ∀ r' : Unit, r = .inr (r') → Rn l G iX12_guess (d + 2) 111 [] [] u o u') : Rn l G iX12_guess (d + 2) 69 [(0, rv (some t0)), (1, .int i1), (2, .int i2), (3, .int i3), (4, .int i4), (5, .int s0)] [] u o u' :=
  lp_run (P := fun s : Int32 => Rn l G iX12_guess (d + 2) 69 [(0, rv (some t0)), (1, .int i1), (2, .int i2), (3, .int i3), (4, .int i4), (5, .int s)] [] u o u') (E := fun r => (∀ r' : Unit, r = .inl r' → Rn l G iX12_guess (d + 2) 120 [(0, rv (some t0)), (1, .int i1), (2, .int i2), (3, .int i3), (4, .int i4)] [] u o u') ∧ (∀ r' : Unit, r = .inr (r') → Rn l G iX12_guess (d + 2) 111 [] [] u o u')) (fun s y hy k0 kE => btX12_guess_69 hy (fun s' e => k0 s' e) (fun r e => (kE _ e).1 r rfl) (fun r e => (kE _ e).2 r rfl)) N s0 r h ⟨k1, k2⟩
theorem tX12_guess {l : Launch} {G : Gt} {d : Nat} {t0 : Nat} {p1 : Int32} {p2 : Int32} {p3 : Int32} {p4 : Int32} {u : Mem} {y : Int32 × Mem} (h : fX12_guess t0 p1 p2 p3 p4 u = some y) : Rn l G iX12_guess (d + 2) 0 [(0, rv (some t0)), (1, .int p1), (2, .int p2), (3, .int p3), (4, .int p4)] [] u (.returned (some (.int y.1))) y.2 := by
  unfold fX12_guess at h
  refine rn_iload_n (pc := 0) 1 dX12_guess_0 rfl rfl ?_
  obtain ⟨v1, hv1, h1⟩ := bnd_some h
  refine rn_callS (pc := 1) (n := 1) (As := [.int p1]) (rest := []) (eX12_isGuesser (d := d + 0) hv1) (by omega) tw_1251 tw_79 tw_1249 tw_1250 (by decide +kernel) rfl (Nat.le_of_ble_eq_true rfl) dX12_guess_1 rfl ?_
  rcases if_elim h1 with ⟨c2, h2⟩ | ⟨c2, h2⟩
  · refine rn_zeq_t (pc := 4) (tgt := 50) dX12_guess_4 (by decide) c2 ?_
    refine rn_bipush (pc := 50) (v := -2) dX12_guess_50 (by decide) ?_
    cases h2
    exact rn_iret (pc := 52) rfl dX12_guess_52
  · refine rn_zeq_f (pc := 4) 50 dX12_guess_4 (by decide) c2 ?_
    refine rn_aload_n (pc := 7) 0 dX12_guess_7 rfl rfl ?_
    refine rn_iload_n (pc := 8) 2 dX12_guess_8 rfl rfl ?_
    obtain ⟨b3, hb3, h3⟩ := bnd_some h2
    obtain ⟨qb3, kb3⟩ := chk_elim hb3
    cases qb3
    obtain ⟨v4, hv4, h4⟩ := bnd_some h3
    refine rn_callV (pc := 9) (n := 1) (As := [.int p2]) (rest := []) (eX12_isQuestion (d := d + 0) hv4) (by omega) okX12 kb3 tw_1243 tw_79 tw_1241 tw_1242 tw_43 (by decide +kernel) rfl (Nat.le_of_ble_eq_true rfl) dX12_guess_9 rfl ?_
    rcases if_elim h4 with ⟨c5, h5⟩ | ⟨c5, h5⟩
    · refine rn_zeq_t (pc := 12) (tgt := 50) dX12_guess_12 (by decide) c5 ?_
      refine rn_bipush (pc := 50) (v := -2) dX12_guess_50 (by decide) ?_
      cases h5
      exact rn_iret (pc := 52) rfl dX12_guess_52
    · refine rn_zeq_f (pc := 12) 50 dX12_guess_12 (by decide) c5 ?_
      refine rn_iload_n (pc := 15) 3 dX12_guess_15 rfl rfl ?_
      refine rn_i2l (pc := 16) dX12_guess_16 ?_
      refine rn_aload_n (pc := 17) 0 dX12_guess_17 rfl rfl ?_
      obtain ⟨v6, hv6, h6⟩ := bnd_some h5
      refine rn_getR (pc := 18) (k := 28) okX12 (by decide) tw_1021 rfl dX12_guess_18 hv6 ?_
      refine rn_iload_n (pc := 21) 2 dX12_guess_21 rfl rfl ?_
      obtain ⟨v7, hv7, h7⟩ := bnd_some h6
      refine rn_iald (pc := 22) dX12_guess_22 hv7 ?_
      refine rn_i2l (pc := 23) dX12_guess_23 ?_
      refine rn_aload_n (pc := 24) 0 dX12_guess_24 rfl rfl ?_
      obtain ⟨v8, hv8, h8⟩ := bnd_some h7
      refine rn_getR (pc := 25) (k := 29) okX12 (by decide) tw_1022 rfl dX12_guess_25 hv8 ?_
      refine rn_iload_n (pc := 28) 2 dX12_guess_28 rfl rfl ?_
      obtain ⟨v9, hv9, h9⟩ := bnd_some h8
      refine rn_iald (pc := 29) dX12_guess_29 hv9 ?_
      refine rn_i2l (pc := 30) dX12_guess_30 ?_
      obtain ⟨v10, hv10, h10⟩ := bnd_some h9
      refine rn_callS (pc := 31) (n := 3) (As := [.long (Int32.toInt64 p3), .long (Int32.toInt64 v7), .long (Int32.toInt64 v9)]) (rest := []) (eX12_in (d := d + 1) hv10) (by omega) tw_1177 tw_79 tw_1175 tw_1176 (by decide +kernel) rfl (Nat.le_of_ble_eq_true rfl) dX12_guess_31 rfl ?_
      rcases if_elim h10 with ⟨c11, h11⟩ | ⟨c11, h11⟩
      · refine rn_zeq_t (pc := 34) (tgt := 50) dX12_guess_34 (by decide) c11 ?_
        refine rn_bipush (pc := 50) (v := -2) dX12_guess_50 (by decide) ?_
        cases h11
        exact rn_iret (pc := 52) rfl dX12_guess_52
      · refine rn_zeq_f (pc := 34) 50 dX12_guess_34 (by decide) c11 ?_
        refine rn_iload (pc := 37) 4 dX12_guess_37 rfl ?_
        refine rn_i2l (pc := 39) dX12_guess_39 ?_
        refine rn_lconst (pc := 40) (v := 0) dX12_guess_40 (by decide) ?_
        refine rn_ldc2 (pc := 41) tw_1225 dX12_guess_41 ?_
        obtain ⟨v12, hv12, h12⟩ := bnd_some h11
        refine rn_callS (pc := 44) (n := 3) (As := [.long (Int32.toInt64 p4), .long (0 : Int64), .long (10 : Int64)]) (rest := []) (eX12_in (d := d + 1) hv12) (by omega) tw_1177 tw_79 tw_1175 tw_1176 (by decide +kernel) rfl (Nat.le_of_ble_eq_true rfl) dX12_guess_44 rfl ?_
        rcases if_elim h12 with ⟨c13, h13⟩ | ⟨c13, h13⟩
        · refine rn_zne_f (pc := 47) 53 dX12_guess_47 (by decide) c13 ?_
          refine rn_bipush (pc := 50) (v := -2) dX12_guess_50 (by decide) ?_
          cases h13
          exact rn_iret (pc := 52) rfl dX12_guess_52
        · refine rn_zne_t (pc := 47) (tgt := 53) dX12_guess_47 (by decide) c13 ?_
          refine rn_aload_n (pc := 53) 0 dX12_guess_53 rfl rfl ?_
          obtain ⟨v14, hv14, h14⟩ := bnd_some h13
          refine rn_getR (pc := 54) (k := 30) okX12 (by decide) tw_1023 rfl dX12_guess_54 hv14 ?_
          refine rn_iload_n (pc := 57) 2 dX12_guess_57 rfl rfl ?_
          obtain ⟨v15, hv15, h15⟩ := bnd_some h14
          refine rn_iald (pc := 58) dX12_guess_58 hv15 ?_
          refine rn_iconst (pc := 59) (v := 3) dX12_guess_59 (by decide) ?_
          rcases if_elim h15 with ⟨c16, h16⟩ | ⟨c16, h16⟩
          · refine rn_ieq_t (pc := 60) (tgt := 66) dX12_guess_60 (by decide) c16 ?_
            refine rn_iconst (pc := 66) (v := 0) dX12_guess_66 (by decide) ?_
            refine rn_istore (pc := 67) (lv' := [(5, .int (0 : Int32)), (0, rv (some t0)), (1, .int p1), (2, .int p2), (3, .int p3), (4, .int p4)]) dX12_guess_67 (by decide) rfl ?_
            obtain ⟨r31, hr31, h17⟩ := bnd_some h16
            rcases r31 with r32 | r33
            · refine rn_sub [1, 2, 3, 4, 5, 0] rfl (lX12_guess_69 hr31 (fun _ hq => ?_) (fun _ hq => by cases hq))
              cases hq
              have h18 := sumE_l h17
              refine rn_aload_n (pc := 120) 0 dX12_guess_120 rfl rfl ?_
              obtain ⟨v34, hv34, h19⟩ := bnd_some h18
              refine rn_getI (pc := 121) (k := 26) okX12 (by decide) tw_1019 rfl dX12_guess_121 hv34 ?_
              refine rn_sipush (pc := 124) (v := 300) dX12_guess_124 (by decide) ?_
              rcases if_elim h19 with ⟨c35, h20⟩ | ⟨c35, h20⟩
              · refine rn_ine_f (pc := 127) 133 dX12_guess_127 (by decide) c35 ?_
                refine rn_bipush (pc := 130) (v := -3) dX12_guess_130 (by decide) ?_
                cases h20
                exact rn_iret (pc := 132) rfl dX12_guess_132
              · refine rn_ine_t (pc := 127) (tgt := 133) dX12_guess_127 (by decide) c35 ?_
                refine rn_aload_n (pc := 133) 0 dX12_guess_133 rfl rfl ?_
                obtain ⟨v36, hv36, h21⟩ := bnd_some h20
                refine rn_getR (pc := 134) (k := 32) okX12 (by decide) tw_1025 rfl dX12_guess_134 hv36 ?_
                refine rn_aload_n (pc := 137) 0 dX12_guess_137 rfl rfl ?_
                obtain ⟨v37, hv37, h22⟩ := bnd_some h21
                refine rn_getI (pc := 138) (k := 26) okX12 (by decide) tw_1019 rfl dX12_guess_138 hv37 ?_
                refine rn_iload_n (pc := 141) 1 dX12_guess_141 rfl rfl ?_
                obtain ⟨u38, hu38, h23⟩ := bnd_some h22
                refine rn_iast (pc := 142) dX12_guess_142 hu38 ?_
                refine rn_aload_n (pc := 143) 0 dX12_guess_143 rfl rfl ?_
                obtain ⟨v39, hv39, h24⟩ := bnd_some h23
                refine rn_getR (pc := 144) (k := 33) okX12 (by decide) tw_1026 rfl dX12_guess_144 hv39 ?_
                refine rn_aload_n (pc := 147) 0 dX12_guess_147 rfl rfl ?_
                obtain ⟨v40, hv40, h25⟩ := bnd_some h24
                refine rn_getI (pc := 148) (k := 26) okX12 (by decide) tw_1019 rfl dX12_guess_148 hv40 ?_
                refine rn_iload_n (pc := 151) 2 dX12_guess_151 rfl rfl ?_
                obtain ⟨u41, hu41, h26⟩ := bnd_some h25
                refine rn_iast (pc := 152) dX12_guess_152 hu41 ?_
                refine rn_aload_n (pc := 153) 0 dX12_guess_153 rfl rfl ?_
                obtain ⟨v42, hv42, h27⟩ := bnd_some h26
                refine rn_getR (pc := 154) (k := 34) okX12 (by decide) tw_1027 rfl dX12_guess_154 hv42 ?_
                refine rn_aload_n (pc := 157) 0 dX12_guess_157 rfl rfl ?_
                obtain ⟨v43, hv43, h28⟩ := bnd_some h27
                refine rn_getI (pc := 158) (k := 26) okX12 (by decide) tw_1019 rfl dX12_guess_158 hv43 ?_
                refine rn_iload_n (pc := 161) 3 dX12_guess_161 rfl rfl ?_
                obtain ⟨u44, hu44, h29⟩ := bnd_some h28
                refine rn_iast (pc := 162) dX12_guess_162 hu44 ?_
                refine rn_aload_n (pc := 163) 0 dX12_guess_163 rfl rfl ?_
                obtain ⟨v45, hv45, h30⟩ := bnd_some h29
                refine rn_getR (pc := 164) (k := 35) okX12 (by decide) tw_1028 rfl dX12_guess_164 hv45 ?_
                refine rn_aload_n (pc := 167) 0 dX12_guess_167 rfl rfl ?_
                obtain ⟨v46, hv46, h31⟩ := bnd_some h30
                refine rn_getI (pc := 168) (k := 26) okX12 (by decide) tw_1019 rfl dX12_guess_168 hv46 ?_
                refine rn_iload (pc := 171) 4 dX12_guess_171 rfl ?_
                obtain ⟨u47, hu47, h32⟩ := bnd_some h31
                refine rn_iast (pc := 173) dX12_guess_173 hu47 ?_
                refine rn_aload_n (pc := 174) 0 dX12_guess_174 rfl rfl ?_
                refine rn_dup (pc := 175) dX12_guess_175 (rv_cat _) ?_
                obtain ⟨v48, hv48, h33⟩ := bnd_some h32
                refine rn_getI (pc := 176) (k := 26) okX12 (by decide) tw_1019 rfl dX12_guess_176 hv48 ?_
                refine rn_iconst (pc := 179) (v := 1) dX12_guess_179 (by decide) ?_
                refine rn_iadd (pc := 180) dX12_guess_180 ?_
                obtain ⟨u49, hu49, h34⟩ := bnd_some h33
                refine rn_putI (pc := 181) (k := 26) okX12 (by decide) tw_1019 (Or.inl rfl) (Or.inl rfl) dX12_guess_181 hu49 ?_
                refine rn_aload_n (pc := 184) 0 dX12_guess_184 rfl rfl ?_
                obtain ⟨v50, hv50, h35⟩ := bnd_some h34
                refine rn_getI (pc := 185) (k := 26) okX12 (by decide) tw_1019 rfl dX12_guess_185 hv50 ?_
                refine rn_iconst (pc := 188) (v := 1) dX12_guess_188 (by decide) ?_
                refine rn_isub (pc := 189) dX12_guess_189 ?_
                cases h35
                exact rn_iret (pc := 190) rfl dX12_guess_190
            · refine rn_sub [1, 2, 3, 4, 5, 0] rfl (lX12_guess_69 hr31 (fun _ hq => by cases hq) (fun _ hq => ?_))
              cases hq
              have h36 := sumE_r h17
              refine rn_bipush (pc := 111) (v := -4) dX12_guess_111 (by decide) ?_
              cases h36
              exact rn_iret (pc := 113) rfl dX12_guess_113
          · refine rn_ieq_f (pc := 60) 66 dX12_guess_60 (by decide) c16 ?_
            refine rn_bipush (pc := 63) (v := -4) dX12_guess_63 (by decide) ?_
            cases h16
            exact rn_iret (pc := 65) rfl dX12_guess_65
theorem eX12_guess {l : Launch} {G : Gt} {d : Nat} {t0 : Nat} {p1 : Int32} {p2 : Int32} {p3 : Int32} {p4 : Int32} {u : Mem} {y : Int32 × Mem} (h : fX12_guess t0 p1 p2 p3 p4 u = some y) : Ex l G iX12_guess (d + 2) [rv (some t0), .int p1, .int p2, .int p3, .int p4] u (.returned (some (.int y.1))) y.2 := Ex.of (by decide +kernel) (by decide) (Nat.le_of_ble_eq_true rfl) rfl (tX12_guess h)
theorem btX12_heldOn_6 {l : Launch} {G : Gt} {d : Nat} {t0 : Nat} {i1 : Int32} {i2 : Int32} {i3 : Int32} {u : Mem} {s4 : Int32} {s5 : Int32} {y : (Int32 × Int32) ⊕ (Int32)} {o : Outcome} {u' : Mem} (h : bX12_heldOn_6 t0 i1 i2 i3 u s4 s5 = some y) (k0 : ∀ s' : Int32 × Int32, y = .inl s' → Rn l G iX12_heldOn d 6 [(0, rv (some t0)), (1, .int i1), (2, .int i2), (3, .int i3), (4, .int s'.1), (5, .int s'.2)] [] u o u') (k1 : ∀ r : Int32, y = .inr (r) → Rn l G iX12_heldOn d 63 [(4, .int r)] [] u o u') : Rn l G iX12_heldOn d 6 [(0, rv (some t0)), (1, .int i1), (2, .int i2), (3, .int i3), (4, .int s4), (5, .int s5)] [] u o u' := by
  unfold bX12_heldOn_6 at h
  refine rn_iload (pc := 6) 5 dX12_heldOn_6 rfl ?_
  refine rn_aload_n (pc := 8) 0 dX12_heldOn_8 rfl rfl ?_
  obtain ⟨v1, hv1, h1⟩ := bnd_some h
  refine rn_getI (pc := 9) (k := 26) okX12 (by decide) tw_1019 rfl dX12_heldOn_9 hv1 ?_
  rcases if_elim h1 with ⟨c2, h2⟩ | ⟨c2, h2⟩
  · refine rn_ige_f (pc := 12) 63 dX12_heldOn_12 (by decide) c2 ?_
    refine rn_aload_n (pc := 15) 0 dX12_heldOn_15 rfl rfl ?_
    obtain ⟨v3, hv3, h3⟩ := bnd_some h2
    refine rn_getR (pc := 16) (k := 32) okX12 (by decide) tw_1025 rfl dX12_heldOn_16 hv3 ?_
    refine rn_iload (pc := 19) 5 dX12_heldOn_19 rfl ?_
    obtain ⟨v4, hv4, h4⟩ := bnd_some h3
    refine rn_iald (pc := 21) dX12_heldOn_21 hv4 ?_
    refine rn_iload_n (pc := 22) 1 dX12_heldOn_22 rfl rfl ?_
    rcases if_elim h4 with ⟨c5, h5⟩ | ⟨c5, h5⟩
    · refine rn_ine_f (pc := 23) 57 dX12_heldOn_23 (by decide) c5 ?_
      refine rn_aload_n (pc := 26) 0 dX12_heldOn_26 rfl rfl ?_
      obtain ⟨v6, hv6, h6⟩ := bnd_some h5
      refine rn_getR (pc := 27) (k := 33) okX12 (by decide) tw_1026 rfl dX12_heldOn_27 hv6 ?_
      refine rn_iload (pc := 30) 5 dX12_heldOn_30 rfl ?_
      obtain ⟨v7, hv7, h7⟩ := bnd_some h6
      refine rn_iald (pc := 32) dX12_heldOn_32 hv7 ?_
      refine rn_iload_n (pc := 33) 2 dX12_heldOn_33 rfl rfl ?_
      rcases if_elim h7 with ⟨c8, h8⟩ | ⟨c8, h8⟩
      · refine rn_ine_f (pc := 34) 57 dX12_heldOn_34 (by decide) c8 ?_
        refine rn_aload_n (pc := 37) 0 dX12_heldOn_37 rfl rfl ?_
        obtain ⟨v9, hv9, h9⟩ := bnd_some h8
        refine rn_getR (pc := 38) (k := 34) okX12 (by decide) tw_1027 rfl dX12_heldOn_38 hv9 ?_
        refine rn_iload (pc := 41) 5 dX12_heldOn_41 rfl ?_
        obtain ⟨v10, hv10, h10⟩ := bnd_some h9
        refine rn_iald (pc := 43) dX12_heldOn_43 hv10 ?_
        refine rn_iload_n (pc := 44) 3 dX12_heldOn_44 rfl rfl ?_
        rcases if_elim h10 with ⟨c11, h11⟩ | ⟨c11, h11⟩
        · refine rn_igt_t (pc := 45) (tgt := 57) dX12_heldOn_45 (by decide) c11 ?_
          obtain ⟨x12, ex12, h12⟩ := nm_elim h11
          refine rn_iinc (pc := 57) (v := x12) (lv' := [(5, .int x12), (0, rv (some t0)), (1, .int i1), (2, .int i2), (3, .int i3), (4, .int s4)]) 5 dX12_heldOn_57 rfl (by rw [ex12]; rfl) (by decide) rfl ?_
          refine rn_goto (pc := 60) (tgt := 6) dX12_heldOn_60 (by decide) ?_
          cases h12
          exact rn_sub [1, 2, 3, 4, 5, 0] rfl (k0 _ rfl)
        · refine rn_igt_f (pc := 45) 57 dX12_heldOn_45 (by decide) c11 ?_
          refine rn_aload_n (pc := 48) 0 dX12_heldOn_48 rfl rfl ?_
          obtain ⟨v13, hv13, h13⟩ := bnd_some h11
          refine rn_getR (pc := 49) (k := 35) okX12 (by decide) tw_1028 rfl dX12_heldOn_49 hv13 ?_
          refine rn_iload (pc := 52) 5 dX12_heldOn_52 rfl ?_
          obtain ⟨v14, hv14, h14⟩ := bnd_some h13
          refine rn_iald (pc := 54) dX12_heldOn_54 hv14 ?_
          refine rn_istore (pc := 55) (lv' := [(4, .int v14), (0, rv (some t0)), (1, .int i1), (2, .int i2), (3, .int i3), (5, .int s5)]) dX12_heldOn_55 (by decide) rfl ?_
          obtain ⟨x15, ex15, h15⟩ := nm_elim h14
          refine rn_iinc (pc := 57) (v := x15) (lv' := [(5, .int x15), (4, .int v14), (0, rv (some t0)), (1, .int i1), (2, .int i2), (3, .int i3)]) 5 dX12_heldOn_57 rfl (by rw [ex15]; rfl) (by decide) rfl ?_
          refine rn_goto (pc := 60) (tgt := 6) dX12_heldOn_60 (by decide) ?_
          cases h15
          exact rn_sub [2, 3, 4, 5, 1, 0] rfl (k0 _ rfl)
      · refine rn_ine_t (pc := 34) (tgt := 57) dX12_heldOn_34 (by decide) c8 ?_
        obtain ⟨x16, ex16, h16⟩ := nm_elim h8
        refine rn_iinc (pc := 57) (v := x16) (lv' := [(5, .int x16), (0, rv (some t0)), (1, .int i1), (2, .int i2), (3, .int i3), (4, .int s4)]) 5 dX12_heldOn_57 rfl (by rw [ex16]; rfl) (by decide) rfl ?_
        refine rn_goto (pc := 60) (tgt := 6) dX12_heldOn_60 (by decide) ?_
        cases h16
        exact rn_sub [1, 2, 3, 4, 5, 0] rfl (k0 _ rfl)
    · refine rn_ine_t (pc := 23) (tgt := 57) dX12_heldOn_23 (by decide) c5 ?_
      obtain ⟨x17, ex17, h17⟩ := nm_elim h5
      refine rn_iinc (pc := 57) (v := x17) (lv' := [(5, .int x17), (0, rv (some t0)), (1, .int i1), (2, .int i2), (3, .int i3), (4, .int s4)]) 5 dX12_heldOn_57 rfl (by rw [ex17]; rfl) (by decide) rfl ?_
      refine rn_goto (pc := 60) (tgt := 6) dX12_heldOn_60 (by decide) ?_
      cases h17
      exact rn_sub [1, 2, 3, 4, 5, 0] rfl (k0 _ rfl)
  · refine rn_ige_t (pc := 12) (tgt := 63) dX12_heldOn_12 (by decide) c2 ?_
    cases h2
    exact rn_sub [4] rfl (k1 _ rfl)
theorem lX12_heldOn_6 {l : Launch} {G : Gt} {d : Nat} {t0 : Nat} {i1 : Int32} {i2 : Int32} {i3 : Int32} {u : Mem} {N : Nat} {s0 : Int32 × Int32} {r : Int32} {o : Outcome} {u' : Mem} (h : lp (fun s : Int32 × Int32 => bX12_heldOn_6 t0 i1 i2 i3 u s.1 s.2) N s0 = some r) (k1 : Rn l G iX12_heldOn d 63 [(4, .int r)] [] u o u') : Rn l G iX12_heldOn d 6 [(0, rv (some t0)), (1, .int i1), (2, .int i2), (3, .int i3), (4, .int s0.1), (5, .int s0.2)] [] u o u' :=
  lp_run (P := fun s : Int32 × Int32 => Rn l G iX12_heldOn d 6 [(0, rv (some t0)), (1, .int i1), (2, .int i2), (3, .int i3), (4, .int s.1), (5, .int s.2)] [] u o u') (E := fun r => Rn l G iX12_heldOn d 63 [(4, .int r)] [] u o u') (fun s y hy k0 kE => btX12_heldOn_6 hy (fun s' e => k0 s' e) (fun r e => kE r e)) N s0 r h k1
theorem tX12_heldOn {l : Launch} {G : Gt} {d : Nat} {t0 : Nat} {p1 : Int32} {p2 : Int32} {p3 : Int32} {u : Mem} {y : Int32} (h : fX12_heldOn t0 p1 p2 p3 u = some y) : Rn l G iX12_heldOn d 0 [(0, rv (some t0)), (1, .int p1), (2, .int p2), (3, .int p3)] [] u (.returned (some (.int y))) u := by
  unfold fX12_heldOn at h
  refine rn_iconst (pc := 0) (v := -1) dX12_heldOn_0 (by decide) ?_
  refine rn_istore (pc := 1) (lv' := [(4, .int (-1 : Int32)), (0, rv (some t0)), (1, .int p1), (2, .int p2), (3, .int p3)]) dX12_heldOn_1 (by decide) rfl ?_
  refine rn_iconst (pc := 3) (v := 0) dX12_heldOn_3 (by decide) ?_
  refine rn_istore (pc := 4) (lv' := [(5, .int (0 : Int32)), (4, .int (-1 : Int32)), (0, rv (some t0)), (1, .int p1), (2, .int p2), (3, .int p3)]) dX12_heldOn_4 (by decide) rfl ?_
  obtain ⟨r18, hr18, h1⟩ := bnd_some h
  refine rn_sub [2, 3, 4, 5, 1, 0] rfl (lX12_heldOn_6 hr18 ?_)
  refine rn_iload (pc := 63) 0 dX12_heldOn_63 rfl ?_
  cases h1
  exact rn_iret (pc := 65) rfl dX12_heldOn_65
theorem eX12_heldOn {l : Launch} {G : Gt} {d : Nat} {t0 : Nat} {p1 : Int32} {p2 : Int32} {p3 : Int32} {u : Mem} {y : Int32} (h : fX12_heldOn t0 p1 p2 p3 u = some y) : Ex l G iX12_heldOn d [rv (some t0), .int p1, .int p2, .int p3] u (.returned (some (.int y))) u := Ex.of (by decide +kernel) (by decide) (Nat.le_of_ble_eq_true rfl) rfl (tX12_heldOn h)
theorem tX12_holds {l : Launch} {G : Gt} {d : Nat} {t0 : Nat} {p1 : Int32} {p2 : Int32} {p3 : Int32} {u : Mem} {y : Int32} (h : fX12_holds t0 p1 p2 p3 u = some y) : Rn l G iX12_holds (d + 2) 0 [(0, rv (some t0)), (1, .int p1), (2, .int p2), (3, .int p3)] [] u (.returned (some (.int y))) u := by
  unfold fX12_holds at h
  refine rn_iload_n (pc := 0) 1 dX12_holds_0 rfl rfl ?_
  obtain ⟨v1, hv1, h1⟩ := bnd_some h
  refine rn_callS (pc := 1) (n := 1) (As := [.int p1]) (rest := []) (eX12_isGuesser (d := d + 0) hv1) (by omega) tw_1251 tw_79 tw_1249 tw_1250 (by decide +kernel) rfl (Nat.le_of_ble_eq_true rfl) dX12_holds_1 rfl ?_
  rcases if_elim h1 with ⟨c2, h2⟩ | ⟨c2, h2⟩
  · refine rn_zeq_t (pc := 4) (tgt := 32) dX12_holds_4 (by decide) c2 ?_
    refine rn_bipush (pc := 32) (v := -2) dX12_holds_32 (by decide) ?_
    cases h2
    exact rn_iret (pc := 34) rfl dX12_holds_34
  · refine rn_zeq_f (pc := 4) 32 dX12_holds_4 (by decide) c2 ?_
    refine rn_aload_n (pc := 7) 0 dX12_holds_7 rfl rfl ?_
    refine rn_iload_n (pc := 8) 2 dX12_holds_8 rfl rfl ?_
    obtain ⟨b3, hb3, h3⟩ := bnd_some h2
    obtain ⟨qb3, kb3⟩ := chk_elim hb3
    cases qb3
    obtain ⟨v4, hv4, h4⟩ := bnd_some h3
    refine rn_callV (pc := 9) (n := 1) (As := [.int p2]) (rest := []) (eX12_isQuestion (d := d + 0) hv4) (by omega) okX12 kb3 tw_1243 tw_79 tw_1241 tw_1242 tw_43 (by decide +kernel) rfl (Nat.le_of_ble_eq_true rfl) dX12_holds_9 rfl ?_
    rcases if_elim h4 with ⟨c5, h5⟩ | ⟨c5, h5⟩
    · refine rn_zeq_t (pc := 12) (tgt := 32) dX12_holds_12 (by decide) c5 ?_
      refine rn_bipush (pc := 32) (v := -2) dX12_holds_32 (by decide) ?_
      cases h5
      exact rn_iret (pc := 34) rfl dX12_holds_34
    · refine rn_zeq_f (pc := 12) 32 dX12_holds_12 (by decide) c5 ?_
      refine rn_iload_n (pc := 15) 3 dX12_holds_15 rfl rfl ?_
      obtain ⟨v6, hv6, h6⟩ := bnd_some h5
      refine rn_callS (pc := 16) (n := 1) (As := [.int p3]) (rest := []) (eX12_isDay (d := d + 0) hv6) (by omega) tw_1235 tw_79 tw_1233 tw_1234 (by decide +kernel) rfl (Nat.le_of_ble_eq_true rfl) dX12_holds_16 rfl ?_
      rcases if_elim h6 with ⟨c7, h7⟩ | ⟨c7, h7⟩
      · refine rn_zeq_t (pc := 19) (tgt := 32) dX12_holds_19 (by decide) c7 ?_
        refine rn_bipush (pc := 32) (v := -2) dX12_holds_32 (by decide) ?_
        cases h7
        exact rn_iret (pc := 34) rfl dX12_holds_34
      · refine rn_zeq_f (pc := 19) 32 dX12_holds_19 (by decide) c7 ?_
        refine rn_aload_n (pc := 22) 0 dX12_holds_22 rfl rfl ?_
        refine rn_iload_n (pc := 23) 1 dX12_holds_23 rfl rfl ?_
        refine rn_iload_n (pc := 24) 2 dX12_holds_24 rfl rfl ?_
        refine rn_iload_n (pc := 25) 3 dX12_holds_25 rfl rfl ?_
        obtain ⟨b8, hb8, h8⟩ := bnd_some h7
        obtain ⟨qb8, kb8⟩ := chk_elim hb8
        cases qb8
        obtain ⟨v9, hv9, h9⟩ := bnd_some h8
        refine rn_callV (pc := 26) (n := 3) (As := [.int p1, .int p2, .int p3]) (rest := []) (eX12_heldOn (d := d + 1) hv9) (by omega) okX12 kb8 tw_1259 tw_79 tw_1257 tw_1258 tw_44 (by decide +kernel) rfl (Nat.le_of_ble_eq_true rfl) dX12_holds_26 rfl ?_
        refine rn_goto (pc := 29) (tgt := 34) dX12_holds_29 (by decide) ?_
        cases h9
        exact rn_iret (pc := 34) rfl dX12_holds_34
theorem eX12_holds {l : Launch} {G : Gt} {d : Nat} {t0 : Nat} {p1 : Int32} {p2 : Int32} {p3 : Int32} {u : Mem} {y : Int32} (h : fX12_holds t0 p1 p2 p3 u = some y) : Ex l G iX12_holds (d + 2) [rv (some t0), .int p1, .int p2, .int p3] u (.returned (some (.int y))) u := Ex.of (by decide +kernel) (by decide) (Nat.le_of_ble_eq_true rfl) rfl (tX12_holds h)
theorem btX12_about_77 {l : Launch} {G : Gt} {d : Nat} {t0 : Nat} {i1 : Int32} {u : Mem} {s3 : Int32} {s4 : Int32} {y : (Int32 × Int32) ⊕ (Int32)} {o : Outcome} {u' : Mem} (h : bX12_about_77 t0 i1 u s3 s4 = some y) (k0 : ∀ s' : Int32 × Int32, y = .inl s' → Rn l G iX12_about (d + 2) 77 [(0, rv (some t0)), (1, .int i1), (3, .int s'.1), (4, .int s'.2)] [] u o u') (k1 : ∀ r : Int32, y = .inr (r) → Rn l G iX12_about (d + 2) 111 [(3, .int r)] [] u o u') : Rn l G iX12_about (d + 2) 77 [(0, rv (some t0)), (1, .int i1), (3, .int s3), (4, .int s4)] [] u o u' := by
  unfold bX12_about_77 at h
  refine rn_iload (pc := 77) 3 dX12_about_77 rfl ?_
  refine rn_aload_n (pc := 79) 0 dX12_about_79 rfl rfl ?_
  obtain ⟨v17, hv17, h1⟩ := bnd_some h
  refine rn_getI (pc := 80) (k := 26) okX12 (by decide) tw_1019 rfl dX12_about_80 hv17 ?_
  rcases if_elim h1 with ⟨c18, h2⟩ | ⟨c18, h2⟩
  · refine rn_ige_f (pc := 83) 111 dX12_about_83 (by decide) c18 ?_
    refine rn_iload_n (pc := 86) 2 dX12_about_86 rfl rfl ?_
    refine rn_aload_n (pc := 87) 0 dX12_about_87 rfl rfl ?_
    obtain ⟨v19, hv19, h3⟩ := bnd_some h2
    refine rn_getR (pc := 88) (k := 33) okX12 (by decide) tw_1026 rfl dX12_about_88 hv19 ?_
    refine rn_iload (pc := 91) 3 dX12_about_91 rfl ?_
    obtain ⟨v20, hv20, h4⟩ := bnd_some h3
    refine rn_iald (pc := 93) dX12_about_93 hv20 ?_
    refine rn_iload_n (pc := 94) 1 dX12_about_94 rfl rfl ?_
    rcases if_elim h4 with ⟨c21, h5⟩ | ⟨c21, h5⟩
    · refine rn_ine_f (pc := 95) 102 dX12_about_95 (by decide) c21 ?_
      refine rn_iconst (pc := 98) (v := 1) dX12_about_98 (by decide) ?_
      refine rn_goto (pc := 99) (tgt := 103) dX12_about_99 (by decide) ?_
      refine rn_iadd (pc := 103) dX12_about_103 ?_
      obtain ⟨x22, ex22, h6⟩ := nm_elim h5
      refine rn_topi ex22 ?_
      refine rn_istore_n (pc := 104) (lv' := [(3, .int x22), (0, rv (some t0)), (1, .int i1), (4, .int s4)]) dX12_about_104 rfl (by decide) rfl ?_
      obtain ⟨x23, ex23, h7⟩ := nm_elim h6
      refine rn_iinc (pc := 105) (v := x23) (lv' := [(4, .int x23), (3, .int x22), (0, rv (some t0)), (1, .int i1)]) 3 dX12_about_105 rfl (by rw [ex23]; rfl) (by decide) rfl ?_
      refine rn_goto (pc := 108) (tgt := 77) dX12_about_108 (by decide) ?_
      cases h7
      exact rn_sub [2, 3, 1, 0] rfl (k0 _ rfl)
    · refine rn_ine_t (pc := 95) (tgt := 102) dX12_about_95 (by decide) c21 ?_
      refine rn_iconst (pc := 102) (v := 0) dX12_about_102 (by decide) ?_
      refine rn_iadd (pc := 103) dX12_about_103 ?_
      obtain ⟨x24, ex24, h8⟩ := nm_elim h5
      refine rn_topi ex24 ?_
      refine rn_istore_n (pc := 104) (lv' := [(3, .int x24), (0, rv (some t0)), (1, .int i1), (4, .int s4)]) dX12_about_104 rfl (by decide) rfl ?_
      obtain ⟨x25, ex25, h9⟩ := nm_elim h8
      refine rn_iinc (pc := 105) (v := x25) (lv' := [(4, .int x25), (3, .int x24), (0, rv (some t0)), (1, .int i1)]) 3 dX12_about_105 rfl (by rw [ex25]; rfl) (by decide) rfl ?_
      refine rn_goto (pc := 108) (tgt := 77) dX12_about_108 (by decide) ?_
      cases h9
      exact rn_sub [2, 3, 1, 0] rfl (k0 _ rfl)
  · refine rn_ige_t (pc := 83) (tgt := 111) dX12_about_83 (by decide) c18 ?_
    cases h2
    exact rn_sub [2] rfl (k1 _ rfl)
theorem lX12_about_77 {l : Launch} {G : Gt} {d : Nat} {t0 : Nat} {i1 : Int32} {u : Mem} {N : Nat} {s0 : Int32 × Int32} {r : Int32} {o : Outcome} {u' : Mem} (h : lp (fun s : Int32 × Int32 => bX12_about_77 t0 i1 u s.1 s.2) N s0 = some r) (k1 : Rn l G iX12_about (d + 2) 111 [(3, .int r)] [] u o u') : Rn l G iX12_about (d + 2) 77 [(0, rv (some t0)), (1, .int i1), (3, .int s0.1), (4, .int s0.2)] [] u o u' :=
  lp_run (P := fun s : Int32 × Int32 => Rn l G iX12_about (d + 2) 77 [(0, rv (some t0)), (1, .int i1), (3, .int s.1), (4, .int s.2)] [] u o u') (E := fun r => Rn l G iX12_about (d + 2) 111 [(3, .int r)] [] u o u') (fun s y hy k0 kE => btX12_about_77 hy (fun s' e => k0 s' e) (fun r e => kE r e)) N s0 r h k1
theorem tX12_about {l : Launch} {G : Gt} {d : Nat} {t0 : Nat} {p1 : Int32} {p2 : Int32} {u : Mem} {y : Int32} (h : fX12_about t0 p1 p2 u = some y) : Rn l G iX12_about (d + 2) 0 [(0, rv (some t0)), (1, .int p1), (2, .int p2)] [] u (.returned (some (.int y))) u := by
  unfold fX12_about at h
  refine rn_aload_n (pc := 0) 0 dX12_about_0 rfl rfl ?_
  refine rn_iload_n (pc := 1) 1 dX12_about_1 rfl rfl ?_
  obtain ⟨b1, hb1, h1⟩ := bnd_some h
  obtain ⟨qb1, kb1⟩ := chk_elim hb1
  cases qb1
  obtain ⟨v2, hv2, h2⟩ := bnd_some h1
  refine rn_callV (pc := 2) (n := 1) (As := [.int p1]) (rest := []) (eX12_isQuestion (d := d + 0) hv2) (by omega) okX12 kb1 tw_1243 tw_79 tw_1241 tw_1242 tw_43 (by decide +kernel) rfl (Nat.le_of_ble_eq_true rfl) dX12_about_2 rfl ?_
  rcases if_elim h2 with ⟨c3, h3⟩ | ⟨c3, h3⟩
  · refine rn_zne_f (pc := 5) 10 dX12_about_5 (by decide) c3 ?_
    refine rn_iconst (pc := 8) (v := -1) dX12_about_8 (by decide) ?_
    cases h3
    exact rn_iret (pc := 9) rfl dX12_about_9
  · refine rn_zne_t (pc := 5) (tgt := 10) dX12_about_5 (by decide) c3 ?_
    refine rn_iload_n (pc := 10) 2 dX12_about_10 rfl rfl ?_
    rcases if_elim h3 with ⟨c4, h4⟩ | ⟨c4, h4⟩
    · refine rn_tsw_in (pc := 11) (tgt := 44) (off := 33) 0 dX12_about_11 c4 (by decide) (by decide) ?_
      refine rn_aload_n (pc := 44) 0 dX12_about_44 rfl rfl ?_
      obtain ⟨v5, hv5, h5⟩ := bnd_some h4
      refine rn_getR (pc := 45) (k := 28) okX12 (by decide) tw_1021 rfl dX12_about_45 hv5 ?_
      refine rn_iload_n (pc := 48) 1 dX12_about_48 rfl rfl ?_
      obtain ⟨v6, hv6, h6⟩ := bnd_some h5
      refine rn_iald (pc := 49) dX12_about_49 hv6 ?_
      cases h6
      exact rn_iret (pc := 50) rfl dX12_about_50
    · skip
      rcases if_elim h4 with ⟨c7, h7⟩ | ⟨c7, h7⟩
      · refine rn_tsw_in (pc := 11) (tgt := 51) (off := 40) 1 dX12_about_11 c7 (by decide) (by decide) ?_
        refine rn_aload_n (pc := 51) 0 dX12_about_51 rfl rfl ?_
        obtain ⟨v8, hv8, h8⟩ := bnd_some h7
        refine rn_getR (pc := 52) (k := 29) okX12 (by decide) tw_1022 rfl dX12_about_52 hv8 ?_
        refine rn_iload_n (pc := 55) 1 dX12_about_55 rfl rfl ?_
        obtain ⟨v9, hv9, h9⟩ := bnd_some h8
        refine rn_iald (pc := 56) dX12_about_56 hv9 ?_
        cases h9
        exact rn_iret (pc := 57) rfl dX12_about_57
      · skip
        rcases if_elim h7 with ⟨c10, h10⟩ | ⟨c10, h10⟩
        · refine rn_tsw_in (pc := 11) (tgt := 58) (off := 47) 2 dX12_about_11 c10 (by decide) (by decide) ?_
          refine rn_aload_n (pc := 58) 0 dX12_about_58 rfl rfl ?_
          obtain ⟨v11, hv11, h11⟩ := bnd_some h10
          refine rn_getR (pc := 59) (k := 30) okX12 (by decide) tw_1023 rfl dX12_about_59 hv11 ?_
          refine rn_iload_n (pc := 62) 1 dX12_about_62 rfl rfl ?_
          obtain ⟨v12, hv12, h12⟩ := bnd_some h11
          refine rn_iald (pc := 63) dX12_about_63 hv12 ?_
          cases h12
          exact rn_iret (pc := 64) rfl dX12_about_64
        · skip
          rcases if_elim h10 with ⟨c13, h13⟩ | ⟨c13, h13⟩
          · refine rn_tsw_in (pc := 11) (tgt := 65) (off := 54) 3 dX12_about_11 c13 (by decide) (by decide) ?_
            refine rn_aload_n (pc := 65) 0 dX12_about_65 rfl rfl ?_
            obtain ⟨v14, hv14, h14⟩ := bnd_some h13
            refine rn_getR (pc := 66) (k := 31) okX12 (by decide) tw_1024 rfl dX12_about_66 hv14 ?_
            refine rn_iload_n (pc := 69) 1 dX12_about_69 rfl rfl ?_
            obtain ⟨v15, hv15, h15⟩ := bnd_some h14
            refine rn_iald (pc := 70) dX12_about_70 hv15 ?_
            cases h15
            exact rn_iret (pc := 71) rfl dX12_about_71
          · skip
            rcases if_elim h13 with ⟨c16, h16⟩ | ⟨c16, h16⟩
            · refine rn_tsw_in (pc := 11) (tgt := 72) (off := 61) 4 dX12_about_11 c16 (by decide) (by decide) ?_
              refine rn_iconst (pc := 72) (v := 0) dX12_about_72 (by decide) ?_
              refine rn_istore_n (pc := 73) (lv' := [(3, .int (0 : Int32)), (0, rv (some t0)), (1, .int p1), (2, .int p2)]) dX12_about_73 rfl (by decide) rfl ?_
              refine rn_iconst (pc := 74) (v := 0) dX12_about_74 (by decide) ?_
              refine rn_istore (pc := 75) (lv' := [(4, .int (0 : Int32)), (3, .int (0 : Int32)), (0, rv (some t0)), (1, .int p1), (2, .int p2)]) dX12_about_75 (by decide) rfl ?_
              obtain ⟨r26, hr26, h17⟩ := bnd_some h16
              refine rn_sub [2, 3, 1, 0] rfl (lX12_about_77 hr26 ?_)
              refine rn_iload_n (pc := 111) 0 dX12_about_111 rfl rfl ?_
              cases h17
              exact rn_iret (pc := 112) rfl dX12_about_112
            · skip
              refine rn_tsw_out (pc := 11) (tgt := 113) dX12_about_11 (sw_out (n := 4) (lt_s (lt_s (lt_s (lt_s (lt_s (lt_0) c4) c7) c10) c13) c16)) (by decide) ?_
              refine rn_iconst (pc := 113) (v := -1) dX12_about_113 (by decide) ?_
              cases h16
              exact rn_iret (pc := 114) rfl dX12_about_114
theorem eX12_about {l : Launch} {G : Gt} {d : Nat} {t0 : Nat} {p1 : Int32} {p2 : Int32} {u : Mem} {y : Int32} (h : fX12_about t0 p1 p2 u = some y) : Ex l G iX12_about (d + 2) [rv (some t0), .int p1, .int p2] u (.returned (some (.int y))) u := Ex.of (by decide +kernel) (by decide) (Nat.le_of_ble_eq_true rfl) rfl (tX12_about h)
theorem tX12_pair {l : Launch} {G : Gt} {d : Nat} {p0 : Int32} {p1 : Int32} {u : Mem} {y : Int32} (h : fX12_pair p0 p1 u = some y) : Rn l G iX12_pair d 0 [(0, .int p0), (1, .int p1)] [] u (.returned (some (.int y))) u := by
  unfold fX12_pair at h
  refine rn_bipush (pc := 0) (v := 20) dX12_pair_0 (by decide) ?_
  refine rn_iload_n (pc := 2) 0 dX12_pair_2 rfl rfl ?_
  refine rn_imul (pc := 3) dX12_pair_3 ?_
  refine rn_iload_n (pc := 4) 1 dX12_pair_4 rfl rfl ?_
  refine rn_iadd (pc := 5) dX12_pair_5 ?_
  cases h
  exact rn_iret (pc := 6) rfl dX12_pair_6
theorem eX12_pair {l : Launch} {G : Gt} {d : Nat} {p0 : Int32} {p1 : Int32} {u : Mem} {y : Int32} (h : fX12_pair p0 p1 u = some y) : Ex l G iX12_pair d [.int p0, .int p1] u (.returned (some (.int y))) u := Ex.of (by decide +kernel) (by decide) (Nat.le_of_ble_eq_true rfl) rfl (tX12_pair h)
theorem tX12_heldAt {l : Launch} {G : Gt} {d : Nat} {t0 : Nat} {p1 : Int32} {p2 : Int32} {p3 : Int32} {u : Mem} {y : Int32} (h : fX12_heldAt t0 p1 p2 p3 u = some y) : Rn l G iX12_heldAt (d + 1) 0 [(0, rv (some t0)), (1, .int p1), (2, .int p2), (3, .int p3)] [] u (.returned (some (.int y))) u := by
  unfold fX12_heldAt at h
  refine rn_iload_n (pc := 0) 3 dX12_heldAt_0 rfl rfl ?_
  refine rn_aload_n (pc := 1) 0 dX12_heldAt_1 rfl rfl ?_
  obtain ⟨v1, hv1, h1⟩ := bnd_some h
  refine rn_getR (pc := 2) (k := 28) okX12 (by decide) tw_1021 rfl dX12_heldAt_2 hv1 ?_
  refine rn_iload_n (pc := 5) 2 dX12_heldAt_5 rfl rfl ?_
  obtain ⟨v2, hv2, h2⟩ := bnd_some h1
  refine rn_iald (pc := 6) dX12_heldAt_6 hv2 ?_
  rcases if_elim h2 with ⟨c3, h3⟩ | ⟨c3, h3⟩
  · refine rn_ige_f (pc := 7) 14 dX12_heldAt_7 (by decide) c3 ?_
    refine rn_iconst (pc := 10) (v := -1) dX12_heldAt_10 (by decide) ?_
    refine rn_goto (pc := 11) (tgt := 45) dX12_heldAt_11 (by decide) ?_
    cases h3
    exact rn_iret (pc := 45) rfl dX12_heldAt_45
  · refine rn_ige_t (pc := 7) (tgt := 14) dX12_heldAt_7 (by decide) c3 ?_
    refine rn_aload_n (pc := 14) 0 dX12_heldAt_14 rfl rfl ?_
    obtain ⟨v4, hv4, h4⟩ := bnd_some h3
    refine rn_getR (pc := 15) (k := 39) okX12 (by decide) tw_1032 rfl dX12_heldAt_15 hv4 ?_
    refine rn_bipush (pc := 18) (v := 60) dX12_heldAt_18 (by decide) ?_
    refine rn_iload_n (pc := 20) 1 dX12_heldAt_20 rfl rfl ?_
    refine rn_iload_n (pc := 21) 2 dX12_heldAt_21 rfl rfl ?_
    obtain ⟨v5, hv5, h5⟩ := bnd_some h4
    refine rn_callS (pc := 22) (n := 2) (As := [.int p1, .int p2]) (rest := [.int (60 : Int32), rv v4]) (eX12_pair (d := d + 0) hv5) (by omega) tw_1273 tw_79 tw_1271 tw_1272 (by decide +kernel) rfl (cat_le8 (Nat.le_of_ble_eq_true rfl)) dX12_heldAt_22 rfl ?_
    refine rn_imul (pc := 25) dX12_heldAt_25 ?_
    refine rn_iload_n (pc := 26) 3 dX12_heldAt_26 rfl rfl ?_
    refine rn_aload_n (pc := 27) 0 dX12_heldAt_27 rfl rfl ?_
    obtain ⟨v6, hv6, h6⟩ := bnd_some h5
    refine rn_getR (pc := 28) (k := 29) okX12 (by decide) tw_1022 rfl dX12_heldAt_28 hv6 ?_
    refine rn_iload_n (pc := 31) 2 dX12_heldAt_31 rfl rfl ?_
    obtain ⟨v7, hv7, h7⟩ := bnd_some h6
    refine rn_iald (pc := 32) dX12_heldAt_32 hv7 ?_
    refine rn_mmin (pc := 33) (rest := [.int ((60 : Int32) * v5), rv v4]) (by omega) tw_1283 (cat_le8 (Nat.le_of_ble_eq_true rfl)) dX12_heldAt_33 ?_
    refine rn_iadd (pc := 36) dX12_heldAt_36 ?_
    refine rn_aload_n (pc := 37) 0 dX12_heldAt_37 rfl rfl ?_
    obtain ⟨v8, hv8, h8⟩ := bnd_some h7
    refine rn_getR (pc := 38) (k := 28) okX12 (by decide) tw_1021 rfl dX12_heldAt_38 hv8 ?_
    refine rn_iload_n (pc := 41) 2 dX12_heldAt_41 rfl rfl ?_
    obtain ⟨v9, hv9, h9⟩ := bnd_some h8
    refine rn_iald (pc := 42) dX12_heldAt_42 hv9 ?_
    refine rn_isub (pc := 43) dX12_heldAt_43 ?_
    obtain ⟨v10, hv10, h10⟩ := bnd_some h9
    refine rn_iald (pc := 44) dX12_heldAt_44 hv10 ?_
    cases h10
    exact rn_iret (pc := 45) rfl dX12_heldAt_45
theorem eX12_heldAt {l : Launch} {G : Gt} {d : Nat} {t0 : Nat} {p1 : Int32} {p2 : Int32} {p3 : Int32} {u : Mem} {y : Int32} (h : fX12_heldAt t0 p1 p2 p3 u = some y) : Ex l G iX12_heldAt (d + 1) [rv (some t0), .int p1, .int p2, .int p3] u (.returned (some (.int y))) u := Ex.of (by decide +kernel) (by decide) (Nat.le_of_ble_eq_true rfl) rfl (tX12_heldAt h)
theorem tX12_cost {l : Launch} {G : Gt} {d : Nat} {t0 : Nat} {p1 : Int32} {p2 : Int32} {u : Mem} {y : Int32} (h : fX12_cost t0 p1 p2 u = some y) : Rn l G iX12_cost d 0 [(0, rv (some t0)), (1, .int p1), (2, .int p2)] [] u (.returned (some (.int y))) u := by
  unfold fX12_cost at h
  refine rn_aload_n (pc := 0) 0 dX12_cost_0 rfl rfl ?_
  obtain ⟨v1, hv1, h1⟩ := bnd_some h
  refine rn_getR (pc := 1) (k := 30) okX12 (by decide) tw_1023 rfl dX12_cost_1 hv1 ?_
  refine rn_iload_n (pc := 4) 1 dX12_cost_4 rfl rfl ?_
  obtain ⟨v2, hv2, h2⟩ := bnd_some h1
  refine rn_iald (pc := 5) dX12_cost_5 hv2 ?_
  refine rn_iconst (pc := 6) (v := 1) dX12_cost_6 (by decide) ?_
  rcases if_elim h2 with ⟨c3, h3⟩ | ⟨c3, h3⟩
  · refine rn_ine_f (pc := 7) 19 dX12_cost_7 (by decide) c3 ?_
    refine rn_aload_n (pc := 10) 0 dX12_cost_10 rfl rfl ?_
    obtain ⟨v4, hv4, h4⟩ := bnd_some h3
    refine rn_getR (pc := 11) (k := 10) okX12 (by decide) tw_1003 rfl dX12_cost_11 hv4 ?_
    refine rn_iload_n (pc := 14) 2 dX12_cost_14 rfl rfl ?_
    obtain ⟨v5, hv5, h5⟩ := bnd_some h4
    refine rn_iald (pc := 15) dX12_cost_15 hv5 ?_
    refine rn_goto (pc := 16) (tgt := 25) dX12_cost_16 (by decide) ?_
    cases h5
    exact rn_iret (pc := 25) rfl dX12_cost_25
  · refine rn_ine_t (pc := 7) (tgt := 19) dX12_cost_7 (by decide) c3 ?_
    refine rn_aload_n (pc := 19) 0 dX12_cost_19 rfl rfl ?_
    obtain ⟨v6, hv6, h6⟩ := bnd_some h3
    refine rn_getR (pc := 20) (k := 11) okX12 (by decide) tw_1004 rfl dX12_cost_20 hv6 ?_
    refine rn_iload_n (pc := 23) 2 dX12_cost_23 rfl rfl ?_
    obtain ⟨v7, hv7, h7⟩ := bnd_some h6
    refine rn_iald (pc := 24) dX12_cost_24 hv7 ?_
    cases h7
    exact rn_iret (pc := 25) rfl dX12_cost_25
theorem eX12_cost {l : Launch} {G : Gt} {d : Nat} {t0 : Nat} {p1 : Int32} {p2 : Int32} {u : Mem} {y : Int32} (h : fX12_cost t0 p1 p2 u = some y) : Ex l G iX12_cost d [rv (some t0), .int p1, .int p2] u (.returned (some (.int y))) u := Ex.of (by decide +kernel) (by decide) (Nat.le_of_ble_eq_true rfl) rfl (tX12_cost h)
theorem tX12_isKnown {l : Launch} {G : Gt} {d : Nat} {t0 : Nat} {p1 : Int32} {u : Mem} {y : Int32} (h : fX12_isKnown t0 p1 u = some y) : Rn l G iX12_isKnown d 0 [(0, rv (some t0)), (1, .int p1)] [] u (.returned (some (.int y))) u := by
  unfold fX12_isKnown at h
  refine rn_aload_n (pc := 0) 0 dX12_isKnown_0 rfl rfl ?_
  obtain ⟨v1, hv1, h1⟩ := bnd_some h
  refine rn_getR (pc := 1) (k := 30) okX12 (by decide) tw_1023 rfl dX12_isKnown_1 hv1 ?_
  refine rn_iload_n (pc := 4) 1 dX12_isKnown_4 rfl rfl ?_
  obtain ⟨v2, hv2, h2⟩ := bnd_some h1
  refine rn_iald (pc := 5) dX12_isKnown_5 hv2 ?_
  refine rn_iconst (pc := 6) (v := 2) dX12_isKnown_6 (by decide) ?_
  rcases if_elim h2 with ⟨c3, h3⟩ | ⟨c3, h3⟩
  · refine rn_ige_f (pc := 7) 14 dX12_isKnown_7 (by decide) c3 ?_
    refine rn_iconst (pc := 10) (v := 1) dX12_isKnown_10 (by decide) ?_
    refine rn_goto (pc := 11) (tgt := 15) dX12_isKnown_11 (by decide) ?_
    cases h3
    exact rn_zret (pc := 15) (by decide) rfl dX12_isKnown_15
  · refine rn_ige_t (pc := 7) (tgt := 14) dX12_isKnown_7 (by decide) c3 ?_
    refine rn_iconst (pc := 14) (v := 0) dX12_isKnown_14 (by decide) ?_
    cases h3
    exact rn_zret (pc := 15) (by decide) rfl dX12_isKnown_15
theorem eX12_isKnown {l : Launch} {G : Gt} {d : Nat} {t0 : Nat} {p1 : Int32} {u : Mem} {y : Int32} (h : fX12_isKnown t0 p1 u = some y) : Ex l G iX12_isKnown d [rv (some t0), .int p1] u (.returned (some (.int y))) u := Ex.of (by decide +kernel) (by decide) (Nat.le_of_ble_eq_true rfl) rfl (tX12_isKnown h)
theorem jtX12_rowOn_53 {l : Launch} {G : Gt} {d : Nat} {w0 : Int32} {w1 : Int32} {w2 : Nat} {u : Mem} {y : Int32} (h : jX12_rowOn_53 w0 w1 w2 u = some y) : Rn l G iX12_rowOn (d + 2) 53 [] [.int w0, .int w1, rv (some w2)] u (.returned (some (.int y))) u := by
  unfold jX12_rowOn_53 at h
  obtain ⟨b11, hb11, h1⟩ := bnd_some h
  obtain ⟨qb11, kb11⟩ := chk_elim hb11
  cases qb11
  obtain ⟨v12, hv12, h2⟩ := bnd_some h1
  refine rn_callV (pc := 53) (n := 2) (As := [.int w1, .int w0]) (rest := []) (eX12_cost (d := d + 1) hv12) (by omega) okX12 kb11 tw_1292 tw_79 tw_1290 tw_1291 tw_51 (by decide +kernel) rfl (Nat.le_of_ble_eq_true rfl) dX12_rowOn_53 rfl ?_
  cases h2
  exact rn_iret (pc := 56) rfl dX12_rowOn_56
theorem jtX12_rowOn_39 {l : Launch} {G : Gt} {d : Nat} {t0 : Nat} {p2 : Int32} {p4 : Int32} {u : Mem} {y : Int32} (h : jX12_rowOn_39 t0 p2 p4 u = some y) : Rn l G iX12_rowOn (d + 2) 39 [(0, rv (some t0)), (2, .int p2), (4, .int p4)] [] u (.returned (some (.int y))) u := by
  unfold jX12_rowOn_39 at h
  refine rn_aload_n (pc := 39) 0 dX12_rowOn_39 rfl rfl ?_
  refine rn_iload_n (pc := 40) 1 dX12_rowOn_40 rfl rfl ?_
  refine rn_iload (pc := 41) 2 dX12_rowOn_41 rfl ?_
  refine rn_iconst (pc := 43) (v := -1) dX12_rowOn_43 (by decide) ?_
  rcases if_elim h with ⟨c10, h1⟩ | ⟨c10, h1⟩
  · refine rn_ine_f (pc := 44) 51 dX12_rowOn_44 (by decide) c10 ?_
    refine rn_iconst (pc := 47) (v := 5) dX12_rowOn_47 (by decide) ?_
    refine rn_goto (pc := 48) (tgt := 53) dX12_rowOn_48 (by decide) ?_
    exact rn_sub [] rfl (jtX12_rowOn_53 h1)
  · refine rn_ine_t (pc := 44) (tgt := 51) dX12_rowOn_44 (by decide) c10 ?_
    refine rn_iload (pc := 51) 2 dX12_rowOn_51 rfl ?_
    exact rn_sub [] rfl (jtX12_rowOn_53 h1)
theorem tX12_rowOn {l : Launch} {G : Gt} {d : Nat} {t0 : Nat} {p1 : Int32} {p2 : Int32} {p3 : Int32} {u : Mem} {y : Int32} (h : fX12_rowOn t0 p1 p2 p3 u = some y) : Rn l G iX12_rowOn (d + 2) 0 [(0, rv (some t0)), (1, .int p1), (2, .int p2), (3, .int p3)] [] u (.returned (some (.int y))) u := by
  unfold fX12_rowOn at h
  refine rn_aload_n (pc := 0) 0 dX12_rowOn_0 rfl rfl ?_
  obtain ⟨v1, hv1, h1⟩ := bnd_some h
  refine rn_getR (pc := 1) (k := 43) okX12 (by decide) tw_1036 rfl dX12_rowOn_1 hv1 ?_
  refine rn_iload_n (pc := 4) 1 dX12_rowOn_4 rfl rfl ?_
  refine rn_iload_n (pc := 5) 2 dX12_rowOn_5 rfl rfl ?_
  obtain ⟨v2, hv2, h2⟩ := bnd_some h1
  refine rn_callS (pc := 6) (n := 2) (As := [.int p1, .int p2]) (rest := [rv v1]) (eX12_pair (d := d + 1) hv2) (by omega) tw_1273 tw_79 tw_1271 tw_1272 (by decide +kernel) rfl (cat_le8 (Nat.le_of_ble_eq_true rfl)) dX12_rowOn_6 rfl ?_
  obtain ⟨v3, hv3, h3⟩ := bnd_some h2
  refine rn_zald (pc := 9) dX12_rowOn_9 hv3 ?_
  rcases if_elim h3 with ⟨c4, h4⟩ | ⟨c4, h4⟩
  · refine rn_zne_f (pc := 10) 15 dX12_rowOn_10 (by decide) c4 ?_
    refine rn_iconst (pc := 13) (v := -1) dX12_rowOn_13 (by decide) ?_
    cases h4
    exact rn_iret (pc := 14) rfl dX12_rowOn_14
  · refine rn_zne_t (pc := 10) (tgt := 15) dX12_rowOn_10 (by decide) c4 ?_
    refine rn_aload_n (pc := 15) 0 dX12_rowOn_15 rfl rfl ?_
    refine rn_iload_n (pc := 16) 1 dX12_rowOn_16 rfl rfl ?_
    refine rn_iload_n (pc := 17) 2 dX12_rowOn_17 rfl rfl ?_
    refine rn_iload_n (pc := 18) 3 dX12_rowOn_18 rfl rfl ?_
    obtain ⟨b5, hb5, h5⟩ := bnd_some h4
    obtain ⟨qb5, kb5⟩ := chk_elim hb5
    cases qb5
    obtain ⟨v6, hv6, h6⟩ := bnd_some h5
    refine rn_callV (pc := 19) (n := 3) (As := [.int p1, .int p2, .int p3]) (rest := []) (eX12_heldAt (d := d + 0) hv6) (by omega) okX12 kb5 tw_1289 tw_79 tw_1287 tw_1288 tw_50 (by decide +kernel) rfl (Nat.le_of_ble_eq_true rfl) dX12_rowOn_19 rfl ?_
    refine rn_istore (pc := 22) (lv' := [(4, .int v6), (0, rv (some t0)), (1, .int p1), (2, .int p2), (3, .int p3)]) dX12_rowOn_22 (by decide) rfl ?_
    refine rn_iload (pc := 24) 0 dX12_rowOn_24 rfl ?_
    refine rn_iconst (pc := 26) (v := -1) dX12_rowOn_26 (by decide) ?_
    rcases if_elim h6 with ⟨c7, h7⟩ | ⟨c7, h7⟩
    · refine rn_ine_f (pc := 27) 39 dX12_rowOn_27 (by decide) c7 ?_
      refine rn_aload_n (pc := 30) 1 dX12_rowOn_30 rfl rfl ?_
      obtain ⟨v8, hv8, h8⟩ := bnd_some h7
      refine rn_getI (pc := 31) (k := 0) okX12 (by decide) tw_993 rfl dX12_rowOn_31 hv8 ?_
      rcases if_elim h8 with ⟨c9, h9⟩ | ⟨c9, h9⟩
      · refine rn_zne_f (pc := 34) 39 dX12_rowOn_34 (by decide) c9 ?_
        refine rn_iconst (pc := 37) (v := -1) dX12_rowOn_37 (by decide) ?_
        cases h9
        exact rn_iret (pc := 38) rfl dX12_rowOn_38
      · refine rn_zne_t (pc := 34) (tgt := 39) dX12_rowOn_34 (by decide) c9 ?_
        exact rn_sub [1, 3, 0] rfl (jtX12_rowOn_39 h9)
    · refine rn_ine_t (pc := 27) (tgt := 39) dX12_rowOn_27 (by decide) c7 ?_
      exact rn_sub [1, 3, 0] rfl (jtX12_rowOn_39 h7)
theorem eX12_rowOn {l : Launch} {G : Gt} {d : Nat} {t0 : Nat} {p1 : Int32} {p2 : Int32} {p3 : Int32} {u : Mem} {y : Int32} (h : fX12_rowOn t0 p1 p2 p3 u = some y) : Ex l G iX12_rowOn (d + 2) [rv (some t0), .int p1, .int p2, .int p3] u (.returned (some (.int y))) u := Ex.of (by decide +kernel) (by decide) (Nat.le_of_ble_eq_true rfl) rfl (tX12_rowOn h)
theorem tX12_lastDay {l : Launch} {G : Gt} {d : Nat} {t0 : Nat} {p1 : Int32} {u : Mem} {y : Int32} (h : fX12_lastDay t0 p1 u = some y) : Rn l G iX12_lastDay (d + 1) 0 [(0, rv (some t0)), (1, .int p1)] [] u (.returned (some (.int y))) u := by
  unfold fX12_lastDay at h
  refine rn_aload_n (pc := 0) 0 dX12_lastDay_0 rfl rfl ?_
  obtain ⟨v1, hv1, h1⟩ := bnd_some h
  refine rn_getR (pc := 1) (k := 29) okX12 (by decide) tw_1022 rfl dX12_lastDay_1 hv1 ?_
  refine rn_iload_n (pc := 4) 1 dX12_lastDay_4 rfl rfl ?_
  obtain ⟨v2, hv2, h2⟩ := bnd_some h1
  refine rn_iald (pc := 5) dX12_lastDay_5 hv2 ?_
  refine rn_aload_n (pc := 6) 0 dX12_lastDay_6 rfl rfl ?_
  obtain ⟨v3, hv3, h3⟩ := bnd_some h2
  refine rn_getR (pc := 7) (k := 31) okX12 (by decide) tw_1024 rfl dX12_lastDay_7 hv3 ?_
  refine rn_iload_n (pc := 10) 1 dX12_lastDay_10 rfl rfl ?_
  obtain ⟨v4, hv4, h4⟩ := bnd_some h3
  refine rn_iald (pc := 11) dX12_lastDay_11 hv4 ?_
  refine rn_iconst (pc := 12) (v := 1) dX12_lastDay_12 (by decide) ?_
  refine rn_isub (pc := 13) dX12_lastDay_13 ?_
  refine rn_mmin (pc := 14) (rest := []) (by omega) tw_1283 (Nat.le_of_ble_eq_true rfl) dX12_lastDay_14 ?_
  cases h4
  exact rn_iret (pc := 17) rfl dX12_lastDay_17
theorem eX12_lastDay {l : Launch} {G : Gt} {d : Nat} {t0 : Nat} {p1 : Int32} {u : Mem} {y : Int32} (h : fX12_lastDay t0 p1 u = some y) : Ex l G iX12_lastDay (d + 1) [rv (some t0), .int p1] u (.returned (some (.int y))) u := Ex.of (by decide +kernel) (by decide) (Nat.le_of_ble_eq_true rfl) rfl (tX12_lastDay h)
theorem btX12_sumRows_14 {l : Launch} {G : Gt} {d : Nat} {t0 : Nat} {i1 : Int32} {i2 : Int32} {i3 : Int32} {s4 : Int32} {u : Mem} {y : (Int32 × Mem) ⊕ (Mem)} {o : Outcome} {u' : Mem} (h : bX12_sumRows_14 t0 i1 i2 i3 s4 u = some y) (k0 : ∀ s' : Int32 × Mem, y = .inl s' → Rn l G iX12_sumRows (d + 3) 14 [(0, rv (some t0)), (1, .int i1), (2, .int i2), (3, .int i3), (4, .int s'.1)] [] s'.2 o u') (k1 : ∀ r : Mem, y = .inr (r) → Rn l G iX12_sumRows (d + 3) 85 [] [] r o u') : Rn l G iX12_sumRows (d + 3) 14 [(0, rv (some t0)), (1, .int i1), (2, .int i2), (3, .int i3), (4, .int s4)] [] u o u' := by
  unfold bX12_sumRows_14 at h
  refine rn_iload (pc := 14) 4 dX12_sumRows_14 rfl ?_
  refine rn_aload_n (pc := 16) 0 dX12_sumRows_16 rfl rfl ?_
  refine rn_iload_n (pc := 17) 2 dX12_sumRows_17 rfl rfl ?_
  obtain ⟨b4, hb4, h1⟩ := bnd_some h
  obtain ⟨qb4, kb4⟩ := chk_elim hb4
  cases qb4
  obtain ⟨v5, hv5, h2⟩ := bnd_some h1
  refine rn_callV (pc := 18) (n := 1) (As := [.int i2]) (rest := [.int s4]) (eX12_lastDay (d := d + 1) hv5) (by omega) okX12 kb4 tw_1282 tw_79 tw_1280 tw_1281 tw_48 (by decide +kernel) rfl (Nat.le_of_ble_eq_true rfl) dX12_sumRows_18 rfl ?_
  rcases if_elim h2 with ⟨c6, h3⟩ | ⟨c6, h3⟩
  · refine rn_igt_t (pc := 21) (tgt := 85) dX12_sumRows_21 (by decide) c6 ?_
    cases h3
    exact rn_sub [] rfl (k1 _ rfl)
  · refine rn_igt_f (pc := 21) 85 dX12_sumRows_21 (by decide) c6 ?_
    refine rn_aload_n (pc := 24) 0 dX12_sumRows_24 rfl rfl ?_
    refine rn_iload_n (pc := 25) 1 dX12_sumRows_25 rfl rfl ?_
    refine rn_iload_n (pc := 26) 2 dX12_sumRows_26 rfl rfl ?_
    refine rn_iload (pc := 27) 4 dX12_sumRows_27 rfl ?_
    obtain ⟨b7, hb7, h4⟩ := bnd_some h3
    obtain ⟨qb7, kb7⟩ := chk_elim hb7
    cases qb7
    obtain ⟨v8, hv8, h5⟩ := bnd_some h4
    refine rn_callV (pc := 29) (n := 3) (As := [.int i1, .int i2, .int s4]) (rest := []) (eX12_rowOn (d := d + 0) hv8) (by omega) okX12 kb7 tw_1286 tw_79 tw_1284 tw_1285 tw_49 (by decide +kernel) rfl (Nat.le_of_ble_eq_true rfl) dX12_sumRows_29 rfl ?_
    refine rn_istore (pc := 32) (lv' := [(5, .int v8), (0, rv (some t0)), (1, .int i1), (2, .int i2), (3, .int i3), (4, .int s4)]) dX12_sumRows_32 (by decide) rfl ?_
    refine rn_iload (pc := 34) 0 dX12_sumRows_34 rfl ?_
    refine rn_iconst (pc := 36) (v := -1) dX12_sumRows_36 (by decide) ?_
    rcases if_elim h5 with ⟨c9, h6⟩ | ⟨c9, h6⟩
    · refine rn_ine_f (pc := 37) 43 dX12_sumRows_37 (by decide) c9 ?_
      refine rn_goto (pc := 40) (tgt := 79) dX12_sumRows_40 (by decide) ?_
      obtain ⟨x10, ex10, h7⟩ := nm_elim h6
      refine rn_iinc (pc := 79) (v := x10) (lv' := [(4, .int x10), (5, .int v8), (0, rv (some t0)), (1, .int i1), (2, .int i2), (3, .int i3)]) 5 dX12_sumRows_79 rfl (by rw [ex10]; rfl) (by decide) rfl ?_
      refine rn_goto (pc := 82) (tgt := 14) dX12_sumRows_82 (by decide) ?_
      cases h7
      exact rn_sub [2, 3, 4, 5, 0] rfl (k0 _ rfl)
    · refine rn_ine_t (pc := 37) (tgt := 43) dX12_sumRows_37 (by decide) c9 ?_
      refine rn_aload_n (pc := 43) 1 dX12_sumRows_43 rfl rfl ?_
      obtain ⟨v11, hv11, h8⟩ := bnd_some h6
      refine rn_getR (pc := 44) (k := 40) okX12 (by decide) tw_1033 rfl dX12_sumRows_44 hv11 ?_
      refine rn_iload_n (pc := 47) 4 dX12_sumRows_47 rfl rfl ?_
      refine rn_dup2 (pc := 48) dX12_sumRows_48 rfl (rv_cat _) ?_
      obtain ⟨v12, hv12, h9⟩ := bnd_some h8
      refine rn_iald (pc := 49) dX12_sumRows_49 hv12 ?_
      refine rn_iconst (pc := 50) (v := 1) dX12_sumRows_50 (by decide) ?_
      refine rn_iadd (pc := 51) dX12_sumRows_51 ?_
      obtain ⟨u13, hu13, h10⟩ := bnd_some h9
      refine rn_iast (pc := 52) dX12_sumRows_52 hu13 ?_
      refine rn_aload_n (pc := 53) 1 dX12_sumRows_53 rfl rfl ?_
      obtain ⟨v14, hv14, h11⟩ := bnd_some h10
      refine rn_getR (pc := 54) (k := 41) okX12 (by decide) tw_1034 rfl dX12_sumRows_54 hv14 ?_
      refine rn_iload_n (pc := 57) 4 dX12_sumRows_57 rfl rfl ?_
      refine rn_dup2 (pc := 58) dX12_sumRows_58 rfl (rv_cat _) ?_
      obtain ⟨v15, hv15, h12⟩ := bnd_some h11
      refine rn_iald (pc := 59) dX12_sumRows_59 hv15 ?_
      refine rn_iload (pc := 60) 0 dX12_sumRows_60 rfl ?_
      refine rn_iadd (pc := 62) dX12_sumRows_62 ?_
      obtain ⟨u16, hu16, h13⟩ := bnd_some h12
      refine rn_iast (pc := 63) dX12_sumRows_63 hu16 ?_
      refine rn_aload_n (pc := 64) 1 dX12_sumRows_64 rfl rfl ?_
      obtain ⟨v17, hv17, h14⟩ := bnd_some h13
      refine rn_getR (pc := 65) (k := 42) okX12 (by decide) tw_1035 rfl dX12_sumRows_65 hv17 ?_
      refine rn_iload_n (pc := 68) 4 dX12_sumRows_68 rfl rfl ?_
      refine rn_dup2 (pc := 69) dX12_sumRows_69 rfl (rv_cat _) ?_
      obtain ⟨v18, hv18, h15⟩ := bnd_some h14
      refine rn_iald (pc := 70) dX12_sumRows_70 hv18 ?_
      refine rn_aload_n (pc := 71) 1 dX12_sumRows_71 rfl rfl ?_
      refine rn_iload_n (pc := 72) 3 dX12_sumRows_72 rfl rfl ?_
      refine rn_iconst (pc := 73) (v := 5) dX12_sumRows_73 (by decide) ?_
      obtain ⟨b19, hb19, h16⟩ := bnd_some h15
      obtain ⟨qb19, kb19⟩ := chk_elim hb19
      cases qb19
      obtain ⟨v20, hv20, h17⟩ := bnd_some h16
      refine rn_callV (pc := 74) (n := 2) (As := [.int i2, .int (5 : Int32)]) (rest := [.int v18, .int i3, rv v17]) (eX12_cost (d := d + 2) hv20) (by omega) okX12 kb19 tw_1292 tw_79 tw_1290 tw_1291 tw_51 (by decide +kernel) rfl (cat_le8 (Nat.le_of_ble_eq_true rfl)) dX12_sumRows_74 rfl ?_
      refine rn_iadd (pc := 77) dX12_sumRows_77 ?_
      obtain ⟨u21, hu21, h18⟩ := bnd_some h17
      refine rn_iast (pc := 78) dX12_sumRows_78 hu21 ?_
      obtain ⟨x22, ex22, h19⟩ := nm_elim h18
      refine rn_iinc (pc := 79) (v := x22) (lv' := [(4, .int x22), (5, .int v8), (0, rv (some t0)), (1, .int i1), (2, .int i2), (3, .int i3)]) 5 dX12_sumRows_79 rfl (by rw [ex22]; rfl) (by decide) rfl ?_
      refine rn_goto (pc := 82) (tgt := 14) dX12_sumRows_82 (by decide) ?_
      cases h19
      exact rn_sub [2, 3, 4, 5, 0] rfl (k0 _ rfl)
theorem lX12_sumRows_14 {l : Launch} {G : Gt} {d : Nat} {t0 : Nat} {i1 : Int32} {i2 : Int32} {i3 : Int32} {N : Nat} {s0 : Int32 × Mem} {r : Mem} {o : Outcome} {u' : Mem} (h : lp (fun s : Int32 × Mem => bX12_sumRows_14 t0 i1 i2 i3 s.1 s.2) N s0 = some r) (k1 : Rn l G iX12_sumRows (d + 3) 85 [] [] r o u') : Rn l G iX12_sumRows (d + 3) 14 [(0, rv (some t0)), (1, .int i1), (2, .int i2), (3, .int i3), (4, .int s0.1)] [] s0.2 o u' :=
  lp_run (P := fun s : Int32 × Mem => Rn l G iX12_sumRows (d + 3) 14 [(0, rv (some t0)), (1, .int i1), (2, .int i2), (3, .int i3), (4, .int s.1)] [] s.2 o u') (E := fun r => Rn l G iX12_sumRows (d + 3) 85 [] [] r o u') (fun s y hy k0 kE => btX12_sumRows_14 hy (fun s' e => k0 s' e) (fun r e => kE r e)) N s0 r h k1
theorem tX12_sumRows {l : Launch} {G : Gt} {d : Nat} {t0 : Nat} {p1 : Int32} {p2 : Int32} {u : Mem} {y : Mem} (h : fX12_sumRows t0 p1 p2 u = some y) : Rn l G iX12_sumRows (d + 3) 0 [(0, rv (some t0)), (1, .int p1), (2, .int p2)] [] u (.returned none) y := by
  unfold fX12_sumRows at h
  refine rn_iload_n (pc := 0) 1 dX12_sumRows_0 rfl rfl ?_
  refine rn_iload_n (pc := 1) 2 dX12_sumRows_1 rfl rfl ?_
  obtain ⟨v1, hv1, h1⟩ := bnd_some h
  refine rn_callS (pc := 2) (n := 2) (As := [.int p1, .int p2]) (rest := []) (eX12_pair (d := d + 2) hv1) (by omega) tw_1273 tw_79 tw_1271 tw_1272 (by decide +kernel) rfl (Nat.le_of_ble_eq_true rfl) dX12_sumRows_2 rfl ?_
  refine rn_istore_n (pc := 5) (lv' := [(3, .int v1), (0, rv (some t0)), (1, .int p1), (2, .int p2)]) dX12_sumRows_5 rfl (by decide) rfl ?_
  refine rn_aload_n (pc := 6) 1 dX12_sumRows_6 rfl rfl ?_
  obtain ⟨v2, hv2, h2⟩ := bnd_some h1
  refine rn_getR (pc := 7) (k := 28) okX12 (by decide) tw_1021 rfl dX12_sumRows_7 hv2 ?_
  refine rn_iload_n (pc := 10) 3 dX12_sumRows_10 rfl rfl ?_
  obtain ⟨v3, hv3, h3⟩ := bnd_some h2
  refine rn_iald (pc := 11) dX12_sumRows_11 hv3 ?_
  refine rn_istore (pc := 12) (lv' := [(4, .int v3), (3, .int v1), (0, rv (some t0)), (1, .int p1), (2, .int p2)]) dX12_sumRows_12 (by decide) rfl ?_
  obtain ⟨r23, hr23, h4⟩ := bnd_some h3
  refine rn_sub [2, 3, 4, 1, 0] rfl (lX12_sumRows_14 hr23 ?_)
  cases h4
  exact rn_vret (pc := 85) rfl dX12_sumRows_85
theorem eX12_sumRows {l : Launch} {G : Gt} {d : Nat} {t0 : Nat} {p1 : Int32} {p2 : Int32} {u : Mem} {y : Mem} (h : fX12_sumRows t0 p1 p2 u = some y) : Ex l G iX12_sumRows (d + 3) [rv (some t0), .int p1, .int p2] u (.returned none) y := Ex.of (by decide +kernel) (by decide) (Nat.le_of_ble_eq_true rfl) rfl (tX12_sumRows h)
theorem btX12_prepare_2 {l : Launch} {G : Gt} {d : Nat} {t0 : Nat} {s1 : Int32} {u : Mem} {y : (Int32 × Mem) ⊕ (Mem)} {o : Outcome} {u' : Mem} (h : bX12_prepare_2 t0 s1 u = some y) (k0 : ∀ s' : Int32 × Mem, y = .inl s' → Rn l G iX12_prepare (d + 4) 2 [(0, rv (some t0)), (1, .int s'.1)] [] s'.2 o u') (k1 : ∀ r : Mem, y = .inr (r) → Rn l G iX12_prepare (d + 4) 43 [(0, rv (some t0))] [] r o u') : Rn l G iX12_prepare (d + 4) 2 [(0, rv (some t0)), (1, .int s1)] [] u o u' := by
  unfold bX12_prepare_2 at h
  refine rn_iload_n (pc := 2) 1 dX12_prepare_2 rfl rfl ?_
  refine rn_sipush (pc := 3) (v := 400) dX12_prepare_3 (by decide) ?_
  rcases if_elim h with ⟨c1, h1⟩ | ⟨c1, h1⟩
  · refine rn_ige_f (pc := 6) 43 dX12_prepare_6 (by decide) c1 ?_
    refine rn_aload_n (pc := 9) 0 dX12_prepare_9 rfl rfl ?_
    obtain ⟨v2, hv2, h2⟩ := bnd_some h1
    refine rn_getR (pc := 10) (k := 43) okX12 (by decide) tw_1036 rfl dX12_prepare_10 hv2 ?_
    refine rn_iload_n (pc := 13) 1 dX12_prepare_13 rfl rfl ?_
    refine rn_iconst (pc := 14) (v := 0) dX12_prepare_14 (by decide) ?_
    obtain ⟨u3, hu3, h3⟩ := bnd_some h2
    refine rn_zast (pc := 15) dX12_prepare_15 hu3 ?_
    refine rn_aload_n (pc := 16) 0 dX12_prepare_16 rfl rfl ?_
    obtain ⟨v4, hv4, h4⟩ := bnd_some h3
    refine rn_getR (pc := 17) (k := 40) okX12 (by decide) tw_1033 rfl dX12_prepare_17 hv4 ?_
    refine rn_iload_n (pc := 20) 1 dX12_prepare_20 rfl rfl ?_
    refine rn_iconst (pc := 21) (v := 0) dX12_prepare_21 (by decide) ?_
    obtain ⟨u5, hu5, h5⟩ := bnd_some h4
    refine rn_iast (pc := 22) dX12_prepare_22 hu5 ?_
    refine rn_aload_n (pc := 23) 0 dX12_prepare_23 rfl rfl ?_
    obtain ⟨v6, hv6, h6⟩ := bnd_some h5
    refine rn_getR (pc := 24) (k := 41) okX12 (by decide) tw_1034 rfl dX12_prepare_24 hv6 ?_
    refine rn_iload_n (pc := 27) 1 dX12_prepare_27 rfl rfl ?_
    refine rn_iconst (pc := 28) (v := 0) dX12_prepare_28 (by decide) ?_
    obtain ⟨u7, hu7, h7⟩ := bnd_some h6
    refine rn_iast (pc := 29) dX12_prepare_29 hu7 ?_
    refine rn_aload_n (pc := 30) 0 dX12_prepare_30 rfl rfl ?_
    obtain ⟨v8, hv8, h8⟩ := bnd_some h7
    refine rn_getR (pc := 31) (k := 42) okX12 (by decide) tw_1035 rfl dX12_prepare_31 hv8 ?_
    refine rn_iload_n (pc := 34) 1 dX12_prepare_34 rfl rfl ?_
    refine rn_iconst (pc := 35) (v := 0) dX12_prepare_35 (by decide) ?_
    obtain ⟨u9, hu9, h9⟩ := bnd_some h8
    refine rn_iast (pc := 36) dX12_prepare_36 hu9 ?_
    obtain ⟨x10, ex10, h10⟩ := nm_elim h9
    refine rn_iinc (pc := 37) (v := x10) (lv' := [(1, .int x10), (0, rv (some t0))]) 1 dX12_prepare_37 rfl (by rw [ex10]; rfl) (by decide) rfl ?_
    refine rn_goto (pc := 40) (tgt := 2) dX12_prepare_40 (by decide) ?_
    cases h10
    exact rn_sub [1, 0] rfl (k0 _ rfl)
  · refine rn_ige_t (pc := 6) (tgt := 43) dX12_prepare_6 (by decide) c1 ?_
    cases h1
    exact rn_sub [0] rfl (k1 _ rfl)
theorem lX12_prepare_2 {l : Launch} {G : Gt} {d : Nat} {t0 : Nat} {N : Nat} {s0 : Int32 × Mem} {r : Mem} {o : Outcome} {u' : Mem} (h : lp (fun s : Int32 × Mem => bX12_prepare_2 t0 s.1 s.2) N s0 = some r) (k1 : Rn l G iX12_prepare (d + 4) 43 [(0, rv (some t0))] [] r o u') : Rn l G iX12_prepare (d + 4) 2 [(0, rv (some t0)), (1, .int s0.1)] [] s0.2 o u' :=
  lp_run (P := fun s : Int32 × Mem => Rn l G iX12_prepare (d + 4) 2 [(0, rv (some t0)), (1, .int s.1)] [] s.2 o u') (E := fun r => Rn l G iX12_prepare (d + 4) 43 [(0, rv (some t0))] [] r o u') (fun s y hy k0 kE => btX12_prepare_2 hy (fun s' e => k0 s' e) (fun r e => kE r e)) N s0 r h k1
theorem btX12_prepare_45 {l : Launch} {G : Gt} {d : Nat} {t0 : Nat} {s1 : Int32} {u : Mem} {y : (Int32 × Mem) ⊕ (Mem)} {o : Outcome} {u' : Mem} (h : bX12_prepare_45 t0 s1 u = some y) (k0 : ∀ s' : Int32 × Mem, y = .inl s' → Rn l G iX12_prepare (d + 4) 45 [(0, rv (some t0)), (1, .int s'.1)] [] s'.2 o u') (k1 : ∀ r : Mem, y = .inr (r) → Rn l G iX12_prepare (d + 4) 65 [(0, rv (some t0))] [] r o u') : Rn l G iX12_prepare (d + 4) 45 [(0, rv (some t0)), (1, .int s1)] [] u o u' := by
  unfold bX12_prepare_45 at h
  refine rn_iload_n (pc := 45) 1 dX12_prepare_45 rfl rfl ?_
  refine rn_sipush (pc := 46) (v := 24000) dX12_prepare_46 (by decide) ?_
  rcases if_elim h with ⟨c12, h1⟩ | ⟨c12, h1⟩
  · refine rn_ige_f (pc := 49) 65 dX12_prepare_49 (by decide) c12 ?_
    refine rn_aload_n (pc := 52) 0 dX12_prepare_52 rfl rfl ?_
    obtain ⟨v13, hv13, h2⟩ := bnd_some h1
    refine rn_getR (pc := 53) (k := 39) okX12 (by decide) tw_1032 rfl dX12_prepare_53 hv13 ?_
    refine rn_iload_n (pc := 56) 1 dX12_prepare_56 rfl rfl ?_
    refine rn_iconst (pc := 57) (v := -1) dX12_prepare_57 (by decide) ?_
    obtain ⟨u14, hu14, h3⟩ := bnd_some h2
    refine rn_iast (pc := 58) dX12_prepare_58 hu14 ?_
    obtain ⟨x15, ex15, h4⟩ := nm_elim h3
    refine rn_iinc (pc := 59) (v := x15) (lv' := [(1, .int x15), (0, rv (some t0))]) 1 dX12_prepare_59 rfl (by rw [ex15]; rfl) (by decide) rfl ?_
    refine rn_goto (pc := 62) (tgt := 45) dX12_prepare_62 (by decide) ?_
    cases h4
    exact rn_sub [1, 0] rfl (k0 _ rfl)
  · refine rn_ige_t (pc := 49) (tgt := 65) dX12_prepare_49 (by decide) c12 ?_
    cases h1
    exact rn_sub [0] rfl (k1 _ rfl)
theorem lX12_prepare_45 {l : Launch} {G : Gt} {d : Nat} {t0 : Nat} {N : Nat} {s0 : Int32 × Mem} {r : Mem} {o : Outcome} {u' : Mem} (h : lp (fun s : Int32 × Mem => bX12_prepare_45 t0 s.1 s.2) N s0 = some r) (k1 : Rn l G iX12_prepare (d + 4) 65 [(0, rv (some t0))] [] r o u') : Rn l G iX12_prepare (d + 4) 45 [(0, rv (some t0)), (1, .int s0.1)] [] s0.2 o u' :=
  lp_run (P := fun s : Int32 × Mem => Rn l G iX12_prepare (d + 4) 45 [(0, rv (some t0)), (1, .int s.1)] [] s.2 o u') (E := fun r => Rn l G iX12_prepare (d + 4) 65 [(0, rv (some t0))] [] r o u') (fun s y hy k0 kE => btX12_prepare_45 hy (fun s' e => k0 s' e) (fun r e => kE r e)) N s0 r h k1
theorem btX12_prepare_105 {l : Launch} {G : Gt} {d : Nat} {t0 : Nat} {i1 : Int32} {i2 : Int32} {s3 : Int32} {u : Mem} {y : (Int32 × Mem) ⊕ (Mem)} {o : Outcome} {u' : Mem} (h : bX12_prepare_105 t0 i1 i2 s3 u = some y) (k0 : ∀ s' : Int32 × Mem, y = .inl s' → Rn l G iX12_prepare (d + 4) 105 [(0, rv (some t0)), (1, .int i1), (2, .int i2), (3, .int s'.1)] [] s'.2 o u') (k1 : ∀ r : Mem, y = .inr (r) → Rn l G iX12_prepare (d + 4) 155 [(0, rv (some t0)), (1, .int i1)] [] r o u') : Rn l G iX12_prepare (d + 4) 105 [(0, rv (some t0)), (1, .int i1), (2, .int i2), (3, .int s3)] [] u o u' := by
  unfold bX12_prepare_105 at h
  refine rn_iload_n (pc := 105) 3 dX12_prepare_105 rfl rfl ?_
  refine rn_aload_n (pc := 106) 0 dX12_prepare_106 rfl rfl ?_
  obtain ⟨v28, hv28, h1⟩ := bnd_some h
  refine rn_getR (pc := 107) (k := 29) okX12 (by decide) tw_1022 rfl dX12_prepare_107 hv28 ?_
  refine rn_aload_n (pc := 110) 0 dX12_prepare_110 rfl rfl ?_
  obtain ⟨v29, hv29, h2⟩ := bnd_some h1
  refine rn_getR (pc := 111) (k := 33) okX12 (by decide) tw_1026 rfl dX12_prepare_111 hv29 ?_
  refine rn_iload_n (pc := 114) 1 dX12_prepare_114 rfl rfl ?_
  obtain ⟨v30, hv30, h3⟩ := bnd_some h2
  refine rn_iald (pc := 115) dX12_prepare_115 hv30 ?_
  obtain ⟨v31, hv31, h4⟩ := bnd_some h3
  refine rn_iald (pc := 116) dX12_prepare_116 hv31 ?_
  rcases if_elim h4 with ⟨c32, h5⟩ | ⟨c32, h5⟩
  · refine rn_igt_t (pc := 117) (tgt := 155) dX12_prepare_117 (by decide) c32 ?_
    cases h5
    exact rn_sub [0, 1] rfl (k1 _ rfl)
  · refine rn_igt_f (pc := 117) 155 dX12_prepare_117 (by decide) c32 ?_
    refine rn_aload_n (pc := 120) 0 dX12_prepare_120 rfl rfl ?_
    obtain ⟨v33, hv33, h6⟩ := bnd_some h5
    refine rn_getR (pc := 121) (k := 39) okX12 (by decide) tw_1032 rfl dX12_prepare_121 hv33 ?_
    refine rn_bipush (pc := 124) (v := 60) dX12_prepare_124 (by decide) ?_
    refine rn_iload_n (pc := 126) 2 dX12_prepare_126 rfl rfl ?_
    refine rn_imul (pc := 127) dX12_prepare_127 ?_
    refine rn_iload_n (pc := 128) 3 dX12_prepare_128 rfl rfl ?_
    refine rn_iadd (pc := 129) dX12_prepare_129 ?_
    refine rn_aload_n (pc := 130) 0 dX12_prepare_130 rfl rfl ?_
    obtain ⟨v34, hv34, h7⟩ := bnd_some h6
    refine rn_getR (pc := 131) (k := 28) okX12 (by decide) tw_1021 rfl dX12_prepare_131 hv34 ?_
    refine rn_aload_n (pc := 134) 0 dX12_prepare_134 rfl rfl ?_
    obtain ⟨v35, hv35, h8⟩ := bnd_some h7
    refine rn_getR (pc := 135) (k := 33) okX12 (by decide) tw_1026 rfl dX12_prepare_135 hv35 ?_
    refine rn_iload_n (pc := 138) 1 dX12_prepare_138 rfl rfl ?_
    obtain ⟨v36, hv36, h9⟩ := bnd_some h8
    refine rn_iald (pc := 139) dX12_prepare_139 hv36 ?_
    obtain ⟨v37, hv37, h10⟩ := bnd_some h9
    refine rn_iald (pc := 140) dX12_prepare_140 hv37 ?_
    refine rn_isub (pc := 141) dX12_prepare_141 ?_
    refine rn_aload_n (pc := 142) 0 dX12_prepare_142 rfl rfl ?_
    obtain ⟨v38, hv38, h11⟩ := bnd_some h10
    refine rn_getR (pc := 143) (k := 35) okX12 (by decide) tw_1028 rfl dX12_prepare_143 hv38 ?_
    refine rn_iload_n (pc := 146) 1 dX12_prepare_146 rfl rfl ?_
    obtain ⟨v39, hv39, h12⟩ := bnd_some h11
    refine rn_iald (pc := 147) dX12_prepare_147 hv39 ?_
    obtain ⟨u40, hu40, h13⟩ := bnd_some h12
    refine rn_iast (pc := 148) dX12_prepare_148 hu40 ?_
    obtain ⟨x41, ex41, h14⟩ := nm_elim h13
    refine rn_iinc (pc := 149) (v := x41) (lv' := [(3, .int x41), (0, rv (some t0)), (1, .int i1), (2, .int i2)]) 3 dX12_prepare_149 rfl (by rw [ex41]; rfl) (by decide) rfl ?_
    refine rn_goto (pc := 152) (tgt := 105) dX12_prepare_152 (by decide) ?_
    cases h14
    exact rn_sub [1, 2, 3, 0] rfl (k0 _ rfl)
theorem lX12_prepare_105 {l : Launch} {G : Gt} {d : Nat} {t0 : Nat} {i1 : Int32} {i2 : Int32} {N : Nat} {s0 : Int32 × Mem} {r : Mem} {o : Outcome} {u' : Mem} (h : lp (fun s : Int32 × Mem => bX12_prepare_105 t0 i1 i2 s.1 s.2) N s0 = some r) (k1 : Rn l G iX12_prepare (d + 4) 155 [(0, rv (some t0)), (1, .int i1)] [] r o u') : Rn l G iX12_prepare (d + 4) 105 [(0, rv (some t0)), (1, .int i1), (2, .int i2), (3, .int s0.1)] [] s0.2 o u' :=
  lp_run (P := fun s : Int32 × Mem => Rn l G iX12_prepare (d + 4) 105 [(0, rv (some t0)), (1, .int i1), (2, .int i2), (3, .int s.1)] [] s.2 o u') (E := fun r => Rn l G iX12_prepare (d + 4) 155 [(0, rv (some t0)), (1, .int i1)] [] r o u') (fun s y hy k0 kE => btX12_prepare_105 hy (fun s' e => k0 s' e) (fun r e => kE r e)) N s0 r h k1
theorem btX12_prepare_67 {l : Launch} {G : Gt} {d : Nat} {t0 : Nat} {s1 : Int32} {u : Mem} {y : (Int32 × Mem) ⊕ (Mem)} {o : Outcome} {u' : Mem} (h : bX12_prepare_67 t0 s1 u = some y) (k0 : ∀ s' : Int32 × Mem, y = .inl s' → Rn l G iX12_prepare (d + 4) 67 [(0, rv (some t0)), (1, .int s'.1)] [] s'.2 o u') (k1 : ∀ r : Mem, y = .inr (r) → Rn l G iX12_prepare (d + 4) 161 [(0, rv (some t0))] [] r o u') : Rn l G iX12_prepare (d + 4) 67 [(0, rv (some t0)), (1, .int s1)] [] u o u' := by
  unfold bX12_prepare_67 at h
  refine rn_iload_n (pc := 67) 1 dX12_prepare_67 rfl rfl ?_
  refine rn_aload_n (pc := 68) 0 dX12_prepare_68 rfl rfl ?_
  obtain ⟨v17, hv17, h1⟩ := bnd_some h
  refine rn_getI (pc := 69) (k := 26) okX12 (by decide) tw_1019 rfl dX12_prepare_69 hv17 ?_
  rcases if_elim h1 with ⟨c18, h2⟩ | ⟨c18, h2⟩
  · refine rn_ige_f (pc := 72) 161 dX12_prepare_72 (by decide) c18 ?_
    refine rn_aload_n (pc := 75) 0 dX12_prepare_75 rfl rfl ?_
    obtain ⟨v19, hv19, h3⟩ := bnd_some h2
    refine rn_getR (pc := 76) (k := 32) okX12 (by decide) tw_1025 rfl dX12_prepare_76 hv19 ?_
    refine rn_iload_n (pc := 79) 1 dX12_prepare_79 rfl rfl ?_
    obtain ⟨v20, hv20, h4⟩ := bnd_some h3
    refine rn_iald (pc := 80) dX12_prepare_80 hv20 ?_
    refine rn_aload_n (pc := 81) 0 dX12_prepare_81 rfl rfl ?_
    obtain ⟨v21, hv21, h5⟩ := bnd_some h4
    refine rn_getR (pc := 82) (k := 33) okX12 (by decide) tw_1026 rfl dX12_prepare_82 hv21 ?_
    refine rn_iload_n (pc := 85) 1 dX12_prepare_85 rfl rfl ?_
    obtain ⟨v22, hv22, h6⟩ := bnd_some h5
    refine rn_iald (pc := 86) dX12_prepare_86 hv22 ?_
    obtain ⟨v23, hv23, h7⟩ := bnd_some h6
    refine rn_callS (pc := 87) (n := 2) (As := [.int v20, .int v22]) (rest := []) (eX12_pair (d := d + 3) hv23) (by omega) tw_1273 tw_79 tw_1271 tw_1272 (by decide +kernel) rfl (Nat.le_of_ble_eq_true rfl) dX12_prepare_87 rfl ?_
    refine rn_istore_n (pc := 90) (lv' := [(2, .int v23), (0, rv (some t0)), (1, .int s1)]) dX12_prepare_90 rfl (by decide) rfl ?_
    refine rn_aload_n (pc := 91) 1 dX12_prepare_91 rfl rfl ?_
    obtain ⟨v24, hv24, h8⟩ := bnd_some h7
    refine rn_getR (pc := 92) (k := 43) okX12 (by decide) tw_1036 rfl dX12_prepare_92 hv24 ?_
    refine rn_iload_n (pc := 95) 0 dX12_prepare_95 rfl rfl ?_
    refine rn_iconst (pc := 96) (v := 1) dX12_prepare_96 (by decide) ?_
    obtain ⟨u25, hu25, h9⟩ := bnd_some h8
    refine rn_zast (pc := 97) dX12_prepare_97 hu25 ?_
    refine rn_aload_n (pc := 98) 1 dX12_prepare_98 rfl rfl ?_
    obtain ⟨v26, hv26, h10⟩ := bnd_some h9
    refine rn_getR (pc := 99) (k := 34) okX12 (by decide) tw_1027 rfl dX12_prepare_99 hv26 ?_
    refine rn_iload_n (pc := 102) 2 dX12_prepare_102 rfl rfl ?_
    obtain ⟨v27, hv27, h11⟩ := bnd_some h10
    refine rn_iald (pc := 103) dX12_prepare_103 hv27 ?_
    refine rn_istore_n (pc := 104) (lv' := [(3, .int v27), (2, .int v23), (0, rv (some t0)), (1, .int s1)]) dX12_prepare_104 rfl (by decide) rfl ?_
    obtain ⟨r42, hr42, h12⟩ := bnd_some h11
    refine rn_sub [2, 3, 1, 0] rfl (lX12_prepare_105 hr42 ?_)
    obtain ⟨x43, ex43, h13⟩ := nm_elim h12
    refine rn_iinc (pc := 155) (v := x43) (lv' := [(1, .int x43), (0, rv (some t0))]) 1 dX12_prepare_155 rfl (by rw [ex43]; rfl) (by decide) rfl ?_
    refine rn_goto (pc := 158) (tgt := 67) dX12_prepare_158 (by decide) ?_
    cases h13
    exact rn_sub [1, 0] rfl (k0 _ rfl)
  · refine rn_ige_t (pc := 72) (tgt := 161) dX12_prepare_72 (by decide) c18 ?_
    cases h2
    exact rn_sub [0] rfl (k1 _ rfl)
theorem lX12_prepare_67 {l : Launch} {G : Gt} {d : Nat} {t0 : Nat} {N : Nat} {s0 : Int32 × Mem} {r : Mem} {o : Outcome} {u' : Mem} (h : lp (fun s : Int32 × Mem => bX12_prepare_67 t0 s.1 s.2) N s0 = some r) (k1 : Rn l G iX12_prepare (d + 4) 161 [(0, rv (some t0))] [] r o u') : Rn l G iX12_prepare (d + 4) 67 [(0, rv (some t0)), (1, .int s0.1)] [] s0.2 o u' :=
  lp_run (P := fun s : Int32 × Mem => Rn l G iX12_prepare (d + 4) 67 [(0, rv (some t0)), (1, .int s.1)] [] s.2 o u') (E := fun r => Rn l G iX12_prepare (d + 4) 161 [(0, rv (some t0))] [] r o u') (fun s y hy k0 kE => btX12_prepare_67 hy (fun s' e => k0 s' e) (fun r e => kE r e)) N s0 r h k1
theorem btX12_prepare_171 {l : Launch} {G : Gt} {d : Nat} {t0 : Nat} {i1 : Int32} {s2 : Int32} {u : Mem} {y : (Int32 × Mem) ⊕ (Mem)} {o : Outcome} {u' : Mem} (h : bX12_prepare_171 t0 i1 s2 u = some y) (k0 : ∀ s' : Int32 × Mem, y = .inl s' → Rn l G iX12_prepare (d + 4) 171 [(0, rv (some t0)), (1, .int i1), (2, .int s'.1)] [] s'.2 o u') (k1 : ∀ r : Mem, y = .inr (r) → Rn l G iX12_prepare (d + 4) 199 [(0, rv (some t0)), (1, .int i1)] [] r o u') : Rn l G iX12_prepare (d + 4) 171 [(0, rv (some t0)), (1, .int i1), (2, .int s2)] [] u o u' := by
  unfold bX12_prepare_171 at h
  refine rn_iload_n (pc := 171) 2 dX12_prepare_171 rfl rfl ?_
  refine rn_aload_n (pc := 172) 0 dX12_prepare_172 rfl rfl ?_
  obtain ⟨v46, hv46, h1⟩ := bnd_some h
  refine rn_getI (pc := 173) (k := 25) okX12 (by decide) tw_1018 rfl dX12_prepare_173 hv46 ?_
  rcases if_elim h1 with ⟨c47, h2⟩ | ⟨c47, h2⟩
  · refine rn_ige_f (pc := 176) 199 dX12_prepare_176 (by decide) c47 ?_
    refine rn_aload_n (pc := 179) 0 dX12_prepare_179 rfl rfl ?_
    refine rn_iload_n (pc := 180) 2 dX12_prepare_180 rfl rfl ?_
    obtain ⟨b48, hb48, h3⟩ := bnd_some h2
    obtain ⟨qb48, kb48⟩ := chk_elim hb48
    cases qb48
    obtain ⟨v49, hv49, h4⟩ := bnd_some h3
    refine rn_callV (pc := 181) (n := 1) (As := [.int s2]) (rest := []) (eX12_isKnown (d := d + 3) hv49) (by omega) okX12 kb48 tw_1276 tw_79 tw_1274 tw_1275 tw_46 (by decide +kernel) rfl (Nat.le_of_ble_eq_true rfl) dX12_prepare_181 rfl ?_
    rcases if_elim h4 with ⟨c50, h5⟩ | ⟨c50, h5⟩
    · refine rn_zeq_t (pc := 184) (tgt := 193) dX12_prepare_184 (by decide) c50 ?_
      obtain ⟨x51, ex51, h6⟩ := nm_elim h5
      refine rn_iinc (pc := 193) (v := x51) (lv' := [(2, .int x51), (0, rv (some t0)), (1, .int i1)]) 2 dX12_prepare_193 rfl (by rw [ex51]; rfl) (by decide) rfl ?_
      refine rn_goto (pc := 196) (tgt := 171) dX12_prepare_196 (by decide) ?_
      cases h6
      exact rn_sub [1, 2, 0] rfl (k0 _ rfl)
    · refine rn_zeq_f (pc := 184) 193 dX12_prepare_184 (by decide) c50 ?_
      refine rn_aload_n (pc := 187) 0 dX12_prepare_187 rfl rfl ?_
      refine rn_iload_n (pc := 188) 1 dX12_prepare_188 rfl rfl ?_
      refine rn_iload_n (pc := 189) 2 dX12_prepare_189 rfl rfl ?_
      obtain ⟨b52, hb52, h7⟩ := bnd_some h5
      obtain ⟨qb52, kb52⟩ := chk_elim hb52
      cases qb52
      obtain ⟨u53, hu53, h8⟩ := bnd_some h7
      refine rn_callV (pc := 190) (n := 2) (As := [.int i1, .int s2]) (rest := []) (eX12_sumRows (d := d + 0) hu53) (by omega) okX12 kb52 tw_1279 tw_79 tw_1277 tw_1278 tw_47 (by decide +kernel) rfl (Nat.le_of_ble_eq_true rfl) dX12_prepare_190 rfl ?_
      obtain ⟨x54, ex54, h9⟩ := nm_elim h8
      refine rn_iinc (pc := 193) (v := x54) (lv' := [(2, .int x54), (0, rv (some t0)), (1, .int i1)]) 2 dX12_prepare_193 rfl (by rw [ex54]; rfl) (by decide) rfl ?_
      refine rn_goto (pc := 196) (tgt := 171) dX12_prepare_196 (by decide) ?_
      cases h9
      exact rn_sub [1, 2, 0] rfl (k0 _ rfl)
  · refine rn_ige_t (pc := 176) (tgt := 199) dX12_prepare_176 (by decide) c47 ?_
    cases h2
    exact rn_sub [0, 1] rfl (k1 _ rfl)
theorem lX12_prepare_171 {l : Launch} {G : Gt} {d : Nat} {t0 : Nat} {i1 : Int32} {N : Nat} {s0 : Int32 × Mem} {r : Mem} {o : Outcome} {u' : Mem} (h : lp (fun s : Int32 × Mem => bX12_prepare_171 t0 i1 s.1 s.2) N s0 = some r) (k1 : Rn l G iX12_prepare (d + 4) 199 [(0, rv (some t0)), (1, .int i1)] [] r o u') : Rn l G iX12_prepare (d + 4) 171 [(0, rv (some t0)), (1, .int i1), (2, .int s0.1)] [] s0.2 o u' :=
  lp_run (P := fun s : Int32 × Mem => Rn l G iX12_prepare (d + 4) 171 [(0, rv (some t0)), (1, .int i1), (2, .int s.1)] [] s.2 o u') (E := fun r => Rn l G iX12_prepare (d + 4) 199 [(0, rv (some t0)), (1, .int i1)] [] r o u') (fun s y hy k0 kE => btX12_prepare_171 hy (fun s' e => k0 s' e) (fun r e => kE r e)) N s0 r h k1
theorem btX12_prepare_163 {l : Launch} {G : Gt} {d : Nat} {t0 : Nat} {s1 : Int32} {u : Mem} {y : (Int32 × Mem) ⊕ (Mem)} {o : Outcome} {u' : Mem} (h : bX12_prepare_163 t0 s1 u = some y) (k0 : ∀ s' : Int32 × Mem, y = .inl s' → Rn l G iX12_prepare (d + 4) 163 [(0, rv (some t0)), (1, .int s'.1)] [] s'.2 o u') (k1 : ∀ r : Mem, y = .inr (r) → Rn l G iX12_prepare (d + 4) 205 [] [] r o u') : Rn l G iX12_prepare (d + 4) 163 [(0, rv (some t0)), (1, .int s1)] [] u o u' := by
  unfold bX12_prepare_163 at h
  refine rn_iload_n (pc := 163) 1 dX12_prepare_163 rfl rfl ?_
  refine rn_bipush (pc := 164) (v := 20) dX12_prepare_164 (by decide) ?_
  rcases if_elim h with ⟨c45, h1⟩ | ⟨c45, h1⟩
  · refine rn_ige_f (pc := 166) 205 dX12_prepare_166 (by decide) c45 ?_
    refine rn_iconst (pc := 169) (v := 0) dX12_prepare_169 (by decide) ?_
    refine rn_istore_n (pc := 170) (lv' := [(2, .int (0 : Int32)), (0, rv (some t0)), (1, .int s1)]) dX12_prepare_170 rfl (by decide) rfl ?_
    obtain ⟨r55, hr55, h2⟩ := bnd_some h1
    refine rn_sub [1, 2, 0] rfl (lX12_prepare_171 hr55 ?_)
    obtain ⟨x56, ex56, h3⟩ := nm_elim h2
    refine rn_iinc (pc := 199) (v := x56) (lv' := [(1, .int x56), (0, rv (some t0))]) 1 dX12_prepare_199 rfl (by rw [ex56]; rfl) (by decide) rfl ?_
    refine rn_goto (pc := 202) (tgt := 163) dX12_prepare_202 (by decide) ?_
    cases h3
    exact rn_sub [1, 0] rfl (k0 _ rfl)
  · refine rn_ige_t (pc := 166) (tgt := 205) dX12_prepare_166 (by decide) c45 ?_
    cases h1
    exact rn_sub [] rfl (k1 _ rfl)
theorem lX12_prepare_163 {l : Launch} {G : Gt} {d : Nat} {t0 : Nat} {N : Nat} {s0 : Int32 × Mem} {r : Mem} {o : Outcome} {u' : Mem} (h : lp (fun s : Int32 × Mem => bX12_prepare_163 t0 s.1 s.2) N s0 = some r) (k1 : Rn l G iX12_prepare (d + 4) 205 [] [] r o u') : Rn l G iX12_prepare (d + 4) 163 [(0, rv (some t0)), (1, .int s0.1)] [] s0.2 o u' :=
  lp_run (P := fun s : Int32 × Mem => Rn l G iX12_prepare (d + 4) 163 [(0, rv (some t0)), (1, .int s.1)] [] s.2 o u') (E := fun r => Rn l G iX12_prepare (d + 4) 205 [] [] r o u') (fun s y hy k0 kE => btX12_prepare_163 hy (fun s' e => k0 s' e) (fun r e => kE r e)) N s0 r h k1
theorem tX12_prepare {l : Launch} {G : Gt} {d : Nat} {t0 : Nat} {u : Mem} {y : Mem} (h : fX12_prepare t0 u = some y) : Rn l G iX12_prepare (d + 4) 0 [(0, rv (some t0))] [] u (.returned none) y := by
  unfold fX12_prepare at h
  refine rn_iconst (pc := 0) (v := 0) dX12_prepare_0 (by decide) ?_
  refine rn_istore_n (pc := 1) (lv' := [(1, .int (0 : Int32)), (0, rv (some t0))]) dX12_prepare_1 rfl (by decide) rfl ?_
  obtain ⟨r11, hr11, h1⟩ := bnd_some h
  refine rn_sub [1, 0] rfl (lX12_prepare_2 hr11 ?_)
  refine rn_iconst (pc := 43) (v := 0) dX12_prepare_43 (by decide) ?_
  refine rn_istore_n (pc := 44) (lv' := [(1, .int (0 : Int32)), (0, rv (some t0))]) dX12_prepare_44 rfl (by decide) rfl ?_
  obtain ⟨r16, hr16, h2⟩ := bnd_some h1
  refine rn_sub [1, 0] rfl (lX12_prepare_45 hr16 ?_)
  refine rn_iconst (pc := 65) (v := 0) dX12_prepare_65 (by decide) ?_
  refine rn_istore_n (pc := 66) (lv' := [(1, .int (0 : Int32)), (0, rv (some t0))]) dX12_prepare_66 rfl (by decide) rfl ?_
  obtain ⟨r44, hr44, h3⟩ := bnd_some h2
  refine rn_sub [1, 0] rfl (lX12_prepare_67 hr44 ?_)
  refine rn_iconst (pc := 161) (v := 0) dX12_prepare_161 (by decide) ?_
  refine rn_istore_n (pc := 162) (lv' := [(1, .int (0 : Int32)), (0, rv (some t0))]) dX12_prepare_162 rfl (by decide) rfl ?_
  obtain ⟨r57, hr57, h4⟩ := bnd_some h3
  refine rn_sub [1, 0] rfl (lX12_prepare_163 hr57 ?_)
  cases h4
  exact rn_vret (pc := 205) rfl dX12_prepare_205
theorem eX12_prepare {l : Launch} {G : Gt} {d : Nat} {t0 : Nat} {u : Mem} {y : Mem} (h : fX12_prepare t0 u = some y) : Ex l G iX12_prepare (d + 4) [rv (some t0)] u (.returned none) y := Ex.of (by decide +kernel) (by decide) (Nat.le_of_ble_eq_true rfl) rfl (tX12_prepare h)
theorem tX12_counts {l : Launch} {G : Gt} {d : Nat} {t0 : Nat} {p1 : Int32} {p2 : Int32} {u : Mem} {y : Int32} (h : fX12_counts t0 p1 p2 u = some y) : Rn l G iX12_counts (d + 1) 0 [(0, rv (some t0)), (1, .int p1), (2, .int p2)] [] u (.returned (some (.int y))) u := by
  unfold fX12_counts at h
  refine rn_aload_n (pc := 0) 0 dX12_counts_0 rfl rfl ?_
  refine rn_iload_n (pc := 1) 2 dX12_counts_1 rfl rfl ?_
  obtain ⟨b1, hb1, h1⟩ := bnd_some h
  obtain ⟨qb1, kb1⟩ := chk_elim hb1
  cases qb1
  obtain ⟨v2, hv2, h2⟩ := bnd_some h1
  refine rn_callV (pc := 2) (n := 1) (As := [.int p2]) (rest := []) (eX12_isKnown (d := d + 0) hv2) (by omega) okX12 kb1 tw_1276 tw_79 tw_1274 tw_1275 tw_46 (by decide +kernel) rfl (Nat.le_of_ble_eq_true rfl) dX12_counts_2 rfl ?_
  rcases if_elim h2 with ⟨c3, h3⟩ | ⟨c3, h3⟩
  · refine rn_zeq_t (pc := 5) (tgt := 29) dX12_counts_5 (by decide) c3 ?_
    refine rn_iconst (pc := 29) (v := 0) dX12_counts_29 (by decide) ?_
    cases h3
    exact rn_zret (pc := 30) (by decide) rfl dX12_counts_30
  · refine rn_zeq_f (pc := 5) 29 dX12_counts_5 (by decide) c3 ?_
    refine rn_aload_n (pc := 8) 0 dX12_counts_8 rfl rfl ?_
    obtain ⟨v4, hv4, h4⟩ := bnd_some h3
    refine rn_getR (pc := 9) (k := 40) okX12 (by decide) tw_1033 rfl dX12_counts_9 hv4 ?_
    refine rn_iload_n (pc := 12) 1 dX12_counts_12 rfl rfl ?_
    refine rn_iload_n (pc := 13) 2 dX12_counts_13 rfl rfl ?_
    obtain ⟨v5, hv5, h5⟩ := bnd_some h4
    refine rn_callS (pc := 14) (n := 2) (As := [.int p1, .int p2]) (rest := [rv v4]) (eX12_pair (d := d + 0) hv5) (by omega) tw_1273 tw_79 tw_1271 tw_1272 (by decide +kernel) rfl (cat_le8 (Nat.le_of_ble_eq_true rfl)) dX12_counts_14 rfl ?_
    obtain ⟨v6, hv6, h6⟩ := bnd_some h5
    refine rn_iald (pc := 17) dX12_counts_17 hv6 ?_
    refine rn_aload_n (pc := 18) 0 dX12_counts_18 rfl rfl ?_
    obtain ⟨v7, hv7, h7⟩ := bnd_some h6
    refine rn_getI (pc := 19) (k := 4) okX12 (by decide) tw_997 rfl dX12_counts_19 hv7 ?_
    rcases if_elim h7 with ⟨c8, h8⟩ | ⟨c8, h8⟩
    · refine rn_ilt_t (pc := 22) (tgt := 29) dX12_counts_22 (by decide) c8 ?_
      refine rn_iconst (pc := 29) (v := 0) dX12_counts_29 (by decide) ?_
      cases h8
      exact rn_zret (pc := 30) (by decide) rfl dX12_counts_30
    · refine rn_ilt_f (pc := 22) 29 dX12_counts_22 (by decide) c8 ?_
      refine rn_iconst (pc := 25) (v := 1) dX12_counts_25 (by decide) ?_
      refine rn_goto (pc := 26) (tgt := 30) dX12_counts_26 (by decide) ?_
      cases h8
      exact rn_zret (pc := 30) (by decide) rfl dX12_counts_30
theorem eX12_counts {l : Launch} {G : Gt} {d : Nat} {t0 : Nat} {p1 : Int32} {p2 : Int32} {u : Mem} {y : Int32} (h : fX12_counts t0 p1 p2 u = some y) : Ex l G iX12_counts (d + 1) [rv (some t0), .int p1, .int p2] u (.returned (some (.int y))) u := Ex.of (by decide +kernel) (by decide) (Nat.le_of_ble_eq_true rfl) rfl (tX12_counts h)
theorem btX12_findCopies_23 {l : Launch} {G : Gt} {d : Nat} {t0 : Nat} {i1 : Int32} {i2 : Int32} {u : Mem} {s3 : Int32} {s4 : Int32} {y : (Int32 × Int32) ⊕ (Int32)} {o : Outcome} {u' : Mem} (h : bX12_findCopies_23 t0 i1 i2 u s3 s4 = some y) (k0 : ∀ s' : Int32 × Int32, y = .inl s' → Rn l G iX12_findCopies d 23 [(0, rv (some t0)), (1, .int i1), (2, .int i2), (3, .int s'.1), (4, .int s'.2)] [] u o u') (k1 : ∀ r : Int32, y = .inr (r) → Rn l G iX12_findCopies d 115 [(0, rv (some t0)), (1, .int i1), (2, .int i2), (3, .int r)] [] u o u') : Rn l G iX12_findCopies d 23 [(0, rv (some t0)), (1, .int i1), (2, .int i2), (3, .int s3), (4, .int s4)] [] u o u' := by
  unfold bX12_findCopies_23 at h
  refine rn_iload (pc := 23) 4 dX12_findCopies_23 rfl ?_
  refine rn_aload_n (pc := 25) 0 dX12_findCopies_25 rfl rfl ?_
  obtain ⟨v4, hv4, h1⟩ := bnd_some h
  refine rn_getI (pc := 26) (k := 26) okX12 (by decide) tw_1019 rfl dX12_findCopies_26 hv4 ?_
  rcases if_elim h1 with ⟨c5, h2⟩ | ⟨c5, h2⟩
  · refine rn_ige_f (pc := 29) 115 dX12_findCopies_29 (by decide) c5 ?_
    refine rn_iload_n (pc := 32) 2 dX12_findCopies_32 rfl rfl ?_
    refine rn_aload_n (pc := 33) 0 dX12_findCopies_33 rfl rfl ?_
    obtain ⟨v6, hv6, h3⟩ := bnd_some h2
    refine rn_getR (pc := 34) (k := 32) okX12 (by decide) tw_1025 rfl dX12_findCopies_34 hv6 ?_
    refine rn_iload_n (pc := 37) 1 dX12_findCopies_37 rfl rfl ?_
    obtain ⟨v7, hv7, h4⟩ := bnd_some h3
    refine rn_iald (pc := 38) dX12_findCopies_38 hv7 ?_
    rcases if_elim h4 with ⟨c8, h5⟩ | ⟨c8, h5⟩
    · refine rn_ieq_t (pc := 39) (tgt := 115) dX12_findCopies_39 (by decide) c8 ?_
      cases h5
      exact rn_sub [0, 1, 2, 3] rfl (k1 _ rfl)
    · refine rn_ieq_f (pc := 39) 115 dX12_findCopies_39 (by decide) c8 ?_
      refine rn_aload_n (pc := 42) 0 dX12_findCopies_42 rfl rfl ?_
      obtain ⟨v9, hv9, h6⟩ := bnd_some h5
      refine rn_getR (pc := 43) (k := 32) okX12 (by decide) tw_1025 rfl dX12_findCopies_43 hv9 ?_
      refine rn_iload (pc := 46) 4 dX12_findCopies_46 rfl ?_
      obtain ⟨v10, hv10, h7⟩ := bnd_some h6
      refine rn_iald (pc := 48) dX12_findCopies_48 hv10 ?_
      refine rn_iload_n (pc := 49) 2 dX12_findCopies_49 rfl rfl ?_
      rcases if_elim h7 with ⟨c11, h8⟩ | ⟨c11, h8⟩
      · refine rn_ine_f (pc := 50) 109 dX12_findCopies_50 (by decide) c11 ?_
        refine rn_aload_n (pc := 53) 0 dX12_findCopies_53 rfl rfl ?_
        obtain ⟨v12, hv12, h9⟩ := bnd_some h8
        refine rn_getR (pc := 54) (k := 33) okX12 (by decide) tw_1026 rfl dX12_findCopies_54 hv12 ?_
        refine rn_iload (pc := 57) 4 dX12_findCopies_57 rfl ?_
        obtain ⟨v13, hv13, h10⟩ := bnd_some h9
        refine rn_iald (pc := 59) dX12_findCopies_59 hv13 ?_
        refine rn_aload_n (pc := 60) 0 dX12_findCopies_60 rfl rfl ?_
        obtain ⟨v14, hv14, h11⟩ := bnd_some h10
        refine rn_getR (pc := 61) (k := 33) okX12 (by decide) tw_1026 rfl dX12_findCopies_61 hv14 ?_
        refine rn_iload_n (pc := 64) 1 dX12_findCopies_64 rfl rfl ?_
        obtain ⟨v15, hv15, h12⟩ := bnd_some h11
        refine rn_iald (pc := 65) dX12_findCopies_65 hv15 ?_
        rcases if_elim h12 with ⟨c16, h13⟩ | ⟨c16, h13⟩
        · refine rn_ine_f (pc := 66) 109 dX12_findCopies_66 (by decide) c16 ?_
          refine rn_aload_n (pc := 69) 0 dX12_findCopies_69 rfl rfl ?_
          obtain ⟨v17, hv17, h14⟩ := bnd_some h13
          refine rn_getR (pc := 70) (k := 34) okX12 (by decide) tw_1027 rfl dX12_findCopies_70 hv17 ?_
          refine rn_iload (pc := 73) 4 dX12_findCopies_73 rfl ?_
          obtain ⟨v18, hv18, h15⟩ := bnd_some h14
          refine rn_iald (pc := 75) dX12_findCopies_75 hv18 ?_
          refine rn_aload_n (pc := 76) 0 dX12_findCopies_76 rfl rfl ?_
          obtain ⟨v19, hv19, h16⟩ := bnd_some h15
          refine rn_getR (pc := 77) (k := 34) okX12 (by decide) tw_1027 rfl dX12_findCopies_77 hv19 ?_
          refine rn_iload_n (pc := 80) 1 dX12_findCopies_80 rfl rfl ?_
          obtain ⟨v20, hv20, h17⟩ := bnd_some h16
          refine rn_iald (pc := 81) dX12_findCopies_81 hv20 ?_
          rcases if_elim h17 with ⟨c21, h18⟩ | ⟨c21, h18⟩
          · refine rn_ige_f (pc := 82) 109 dX12_findCopies_82 (by decide) c21 ?_
            refine rn_iload_n (pc := 85) 3 dX12_findCopies_85 rfl rfl ?_
            refine rn_iconst (pc := 86) (v := -1) dX12_findCopies_86 (by decide) ?_
            rcases if_elim h18 with ⟨c22, h19⟩ | ⟨c22, h19⟩
            · refine rn_ieq_t (pc := 87) (tgt := 106) dX12_findCopies_87 (by decide) c22 ?_
              refine rn_iload (pc := 106) 4 dX12_findCopies_106 rfl ?_
              refine rn_istore_n (pc := 108) (lv' := [(3, .int s4), (0, rv (some t0)), (1, .int i1), (2, .int i2), (4, .int s4)]) dX12_findCopies_108 rfl (by decide) rfl ?_
              obtain ⟨x23, ex23, h20⟩ := nm_elim h19
              refine rn_iinc (pc := 109) (v := x23) (lv' := [(4, .int x23), (3, .int s4), (0, rv (some t0)), (1, .int i1), (2, .int i2)]) 4 dX12_findCopies_109 rfl (by rw [ex23]; rfl) (by decide) rfl ?_
              refine rn_goto (pc := 112) (tgt := 23) dX12_findCopies_112 (by decide) ?_
              cases h20
              exact rn_sub [2, 3, 4, 1, 0] rfl (k0 _ rfl)
            · refine rn_ieq_f (pc := 87) 106 dX12_findCopies_87 (by decide) c22 ?_
              refine rn_aload_n (pc := 90) 0 dX12_findCopies_90 rfl rfl ?_
              obtain ⟨v24, hv24, h21⟩ := bnd_some h19
              refine rn_getR (pc := 91) (k := 34) okX12 (by decide) tw_1027 rfl dX12_findCopies_91 hv24 ?_
              refine rn_iload (pc := 94) 4 dX12_findCopies_94 rfl ?_
              obtain ⟨v25, hv25, h22⟩ := bnd_some h21
              refine rn_iald (pc := 96) dX12_findCopies_96 hv25 ?_
              refine rn_aload_n (pc := 97) 0 dX12_findCopies_97 rfl rfl ?_
              obtain ⟨v26, hv26, h23⟩ := bnd_some h22
              refine rn_getR (pc := 98) (k := 34) okX12 (by decide) tw_1027 rfl dX12_findCopies_98 hv26 ?_
              refine rn_iload_n (pc := 101) 3 dX12_findCopies_101 rfl rfl ?_
              obtain ⟨v27, hv27, h24⟩ := bnd_some h23
              refine rn_iald (pc := 102) dX12_findCopies_102 hv27 ?_
              rcases if_elim h24 with ⟨c28, h25⟩ | ⟨c28, h25⟩
              · refine rn_ilt_t (pc := 103) (tgt := 109) dX12_findCopies_103 (by decide) c28 ?_
                obtain ⟨x29, ex29, h26⟩ := nm_elim h25
                refine rn_iinc (pc := 109) (v := x29) (lv' := [(4, .int x29), (0, rv (some t0)), (1, .int i1), (2, .int i2), (3, .int s3)]) 4 dX12_findCopies_109 rfl (by rw [ex29]; rfl) (by decide) rfl ?_
                refine rn_goto (pc := 112) (tgt := 23) dX12_findCopies_112 (by decide) ?_
                cases h26
                exact rn_sub [1, 2, 3, 4, 0] rfl (k0 _ rfl)
              · refine rn_ilt_f (pc := 103) 109 dX12_findCopies_103 (by decide) c28 ?_
                refine rn_iload (pc := 106) 4 dX12_findCopies_106 rfl ?_
                refine rn_istore_n (pc := 108) (lv' := [(3, .int s4), (0, rv (some t0)), (1, .int i1), (2, .int i2), (4, .int s4)]) dX12_findCopies_108 rfl (by decide) rfl ?_
                obtain ⟨x30, ex30, h27⟩ := nm_elim h25
                refine rn_iinc (pc := 109) (v := x30) (lv' := [(4, .int x30), (3, .int s4), (0, rv (some t0)), (1, .int i1), (2, .int i2)]) 4 dX12_findCopies_109 rfl (by rw [ex30]; rfl) (by decide) rfl ?_
                refine rn_goto (pc := 112) (tgt := 23) dX12_findCopies_112 (by decide) ?_
                cases h27
                exact rn_sub [2, 3, 4, 1, 0] rfl (k0 _ rfl)
          · refine rn_ige_t (pc := 82) (tgt := 109) dX12_findCopies_82 (by decide) c21 ?_
            obtain ⟨x31, ex31, h28⟩ := nm_elim h18
            refine rn_iinc (pc := 109) (v := x31) (lv' := [(4, .int x31), (0, rv (some t0)), (1, .int i1), (2, .int i2), (3, .int s3)]) 4 dX12_findCopies_109 rfl (by rw [ex31]; rfl) (by decide) rfl ?_
            refine rn_goto (pc := 112) (tgt := 23) dX12_findCopies_112 (by decide) ?_
            cases h28
            exact rn_sub [1, 2, 3, 4, 0] rfl (k0 _ rfl)
        · refine rn_ine_t (pc := 66) (tgt := 109) dX12_findCopies_66 (by decide) c16 ?_
          obtain ⟨x32, ex32, h29⟩ := nm_elim h13
          refine rn_iinc (pc := 109) (v := x32) (lv' := [(4, .int x32), (0, rv (some t0)), (1, .int i1), (2, .int i2), (3, .int s3)]) 4 dX12_findCopies_109 rfl (by rw [ex32]; rfl) (by decide) rfl ?_
          refine rn_goto (pc := 112) (tgt := 23) dX12_findCopies_112 (by decide) ?_
          cases h29
          exact rn_sub [1, 2, 3, 4, 0] rfl (k0 _ rfl)
      · refine rn_ine_t (pc := 50) (tgt := 109) dX12_findCopies_50 (by decide) c11 ?_
        obtain ⟨x33, ex33, h30⟩ := nm_elim h8
        refine rn_iinc (pc := 109) (v := x33) (lv' := [(4, .int x33), (0, rv (some t0)), (1, .int i1), (2, .int i2), (3, .int s3)]) 4 dX12_findCopies_109 rfl (by rw [ex33]; rfl) (by decide) rfl ?_
        refine rn_goto (pc := 112) (tgt := 23) dX12_findCopies_112 (by decide) ?_
        cases h30
        exact rn_sub [1, 2, 3, 4, 0] rfl (k0 _ rfl)
  · refine rn_ige_t (pc := 29) (tgt := 115) dX12_findCopies_29 (by decide) c5 ?_
    cases h2
    exact rn_sub [0, 1, 2, 3] rfl (k1 _ rfl)
theorem lX12_findCopies_23 {l : Launch} {G : Gt} {d : Nat} {t0 : Nat} {i1 : Int32} {i2 : Int32} {u : Mem} {N : Nat} {s0 : Int32 × Int32} {r : Int32} {o : Outcome} {u' : Mem} (h : lp (fun s : Int32 × Int32 => bX12_findCopies_23 t0 i1 i2 u s.1 s.2) N s0 = some r) (k1 : Rn l G iX12_findCopies d 115 [(0, rv (some t0)), (1, .int i1), (2, .int i2), (3, .int r)] [] u o u') : Rn l G iX12_findCopies d 23 [(0, rv (some t0)), (1, .int i1), (2, .int i2), (3, .int s0.1), (4, .int s0.2)] [] u o u' :=
  lp_run (P := fun s : Int32 × Int32 => Rn l G iX12_findCopies d 23 [(0, rv (some t0)), (1, .int i1), (2, .int i2), (3, .int s.1), (4, .int s.2)] [] u o u') (E := fun r => Rn l G iX12_findCopies d 115 [(0, rv (some t0)), (1, .int i1), (2, .int i2), (3, .int r)] [] u o u') (fun s y hy k0 kE => btX12_findCopies_23 hy (fun s' e => k0 s' e) (fun r e => kE r e)) N s0 r h k1
theorem jtX12_findCopies_12_115 {l : Launch} {G : Gt} {d : Nat} {t0 : Nat} {i1 : Int32} {p2 : Int32} {p3 : Int32} {u : Mem}  {y : (Int32 × Mem) ⊕ (Mem)} {o : Outcome} {u' : Mem} (h : jX12_findCopies_12_115 t0 i1 p2 p3 u = some y) (k0 : ∀ s' : Int32 × Mem, y = .inl s' → Rn l G iX12_findCopies d 12 [(0, rv (some t0)), (1, .int i1), (2, .int s'.1)] [] s'.2 o u') (k1 : ∀ r : Mem, y = .inr (r) → Rn l G iX12_findCopies d 177 [(0, rv (some t0)), (1, .int i1)] [] r o u') : Rn l G iX12_findCopies d 115 [(0, rv (some t0)), (1, .int i1), (2, .int p2), (3, .int p3)] [] u o u' := by
  unfold jX12_findCopies_12_115 at h
  refine rn_aload_n (pc := 115) 0 dX12_findCopies_115 rfl rfl ?_
  obtain ⟨v35, hv35, h1⟩ := bnd_some h
  refine rn_getR (pc := 116) (k := 44) okX12 (by decide) tw_1037 rfl dX12_findCopies_116 hv35 ?_
  refine rn_bipush (pc := 119) (v := 20) dX12_findCopies_119 (by decide) ?_
  refine rn_iload_n (pc := 121) 1 dX12_findCopies_121 rfl rfl ?_
  refine rn_imul (pc := 122) dX12_findCopies_122 ?_
  refine rn_iload_n (pc := 123) 2 dX12_findCopies_123 rfl rfl ?_
  refine rn_iadd (pc := 124) dX12_findCopies_124 ?_
  refine rn_iload_n (pc := 125) 3 dX12_findCopies_125 rfl rfl ?_
  refine rn_iconst (pc := 126) (v := -1) dX12_findCopies_126 (by decide) ?_
  rcases if_elim h1 with ⟨c36, h2⟩ | ⟨c36, h2⟩
  · refine rn_ieq_t (pc := 127) (tgt := 169) dX12_findCopies_127 (by decide) c36 ?_
    refine rn_iconst (pc := 169) (v := 0) dX12_findCopies_169 (by decide) ?_
    obtain ⟨u37, hu37, h3⟩ := bnd_some h2
    refine rn_zast (pc := 170) dX12_findCopies_170 hu37 ?_
    obtain ⟨x38, ex38, h4⟩ := nm_elim h3
    refine rn_iinc (pc := 171) (v := x38) (lv' := [(2, .int x38), (0, rv (some t0)), (1, .int i1), (3, .int p3)]) 2 dX12_findCopies_171 rfl (by rw [ex38]; rfl) (by decide) rfl ?_
    refine rn_goto (pc := 174) (tgt := 12) dX12_findCopies_174 (by decide) ?_
    cases h4
    exact rn_sub [1, 2, 0] rfl (k0 _ rfl)
  · refine rn_ieq_f (pc := 127) 169 dX12_findCopies_127 (by decide) c36 ?_
    refine rn_aload_n (pc := 130) 0 dX12_findCopies_130 rfl rfl ?_
    obtain ⟨v39, hv39, h5⟩ := bnd_some h2
    refine rn_getR (pc := 131) (k := 35) okX12 (by decide) tw_1028 rfl dX12_findCopies_131 hv39 ?_
    refine rn_iload_n (pc := 134) 3 dX12_findCopies_134 rfl rfl ?_
    obtain ⟨v40, hv40, h6⟩ := bnd_some h5
    refine rn_iald (pc := 135) dX12_findCopies_135 hv40 ?_
    refine rn_aload_n (pc := 136) 0 dX12_findCopies_136 rfl rfl ?_
    obtain ⟨v41, hv41, h7⟩ := bnd_some h6
    refine rn_getR (pc := 137) (k := 35) okX12 (by decide) tw_1028 rfl dX12_findCopies_137 hv41 ?_
    refine rn_iload_n (pc := 140) 1 dX12_findCopies_140 rfl rfl ?_
    obtain ⟨v42, hv42, h8⟩ := bnd_some h7
    refine rn_iald (pc := 141) dX12_findCopies_141 hv42 ?_
    rcases if_elim h8 with ⟨c43, h9⟩ | ⟨c43, h9⟩
    · refine rn_ine_f (pc := 142) 169 dX12_findCopies_142 (by decide) c43 ?_
      refine rn_aload_n (pc := 145) 0 dX12_findCopies_145 rfl rfl ?_
      obtain ⟨v44, hv44, h10⟩ := bnd_some h9
      refine rn_getR (pc := 146) (k := 34) okX12 (by decide) tw_1027 rfl dX12_findCopies_146 hv44 ?_
      refine rn_iload_n (pc := 149) 1 dX12_findCopies_149 rfl rfl ?_
      obtain ⟨v45, hv45, h11⟩ := bnd_some h10
      refine rn_iald (pc := 150) dX12_findCopies_150 hv45 ?_
      refine rn_aload_n (pc := 151) 0 dX12_findCopies_151 rfl rfl ?_
      obtain ⟨v46, hv46, h12⟩ := bnd_some h11
      refine rn_getR (pc := 152) (k := 34) okX12 (by decide) tw_1027 rfl dX12_findCopies_152 hv46 ?_
      refine rn_iload_n (pc := 155) 3 dX12_findCopies_155 rfl rfl ?_
      obtain ⟨v47, hv47, h13⟩ := bnd_some h12
      refine rn_iald (pc := 156) dX12_findCopies_156 hv47 ?_
      refine rn_isub (pc := 157) dX12_findCopies_157 ?_
      refine rn_aload_n (pc := 158) 0 dX12_findCopies_158 rfl rfl ?_
      obtain ⟨v48, hv48, h14⟩ := bnd_some h13
      refine rn_getI (pc := 159) (k := 2) okX12 (by decide) tw_995 rfl dX12_findCopies_159 hv48 ?_
      rcases if_elim h14 with ⟨c49, h15⟩ | ⟨c49, h15⟩
      · refine rn_igt_t (pc := 162) (tgt := 169) dX12_findCopies_162 (by decide) c49 ?_
        refine rn_iconst (pc := 169) (v := 0) dX12_findCopies_169 (by decide) ?_
        obtain ⟨u50, hu50, h16⟩ := bnd_some h15
        refine rn_zast (pc := 170) dX12_findCopies_170 hu50 ?_
        obtain ⟨x51, ex51, h17⟩ := nm_elim h16
        refine rn_iinc (pc := 171) (v := x51) (lv' := [(2, .int x51), (0, rv (some t0)), (1, .int i1), (3, .int p3)]) 2 dX12_findCopies_171 rfl (by rw [ex51]; rfl) (by decide) rfl ?_
        refine rn_goto (pc := 174) (tgt := 12) dX12_findCopies_174 (by decide) ?_
        cases h17
        exact rn_sub [1, 2, 0] rfl (k0 _ rfl)
      · refine rn_igt_f (pc := 162) 169 dX12_findCopies_162 (by decide) c49 ?_
        refine rn_iconst (pc := 165) (v := 1) dX12_findCopies_165 (by decide) ?_
        refine rn_goto (pc := 166) (tgt := 170) dX12_findCopies_166 (by decide) ?_
        obtain ⟨u52, hu52, h18⟩ := bnd_some h15
        refine rn_zast (pc := 170) dX12_findCopies_170 hu52 ?_
        obtain ⟨x53, ex53, h19⟩ := nm_elim h18
        refine rn_iinc (pc := 171) (v := x53) (lv' := [(2, .int x53), (0, rv (some t0)), (1, .int i1), (3, .int p3)]) 2 dX12_findCopies_171 rfl (by rw [ex53]; rfl) (by decide) rfl ?_
        refine rn_goto (pc := 174) (tgt := 12) dX12_findCopies_174 (by decide) ?_
        cases h19
        exact rn_sub [1, 2, 0] rfl (k0 _ rfl)
    · refine rn_ine_t (pc := 142) (tgt := 169) dX12_findCopies_142 (by decide) c43 ?_
      refine rn_iconst (pc := 169) (v := 0) dX12_findCopies_169 (by decide) ?_
      obtain ⟨u54, hu54, h20⟩ := bnd_some h9
      refine rn_zast (pc := 170) dX12_findCopies_170 hu54 ?_
      obtain ⟨x55, ex55, h21⟩ := nm_elim h20
      refine rn_iinc (pc := 171) (v := x55) (lv' := [(2, .int x55), (0, rv (some t0)), (1, .int i1), (3, .int p3)]) 2 dX12_findCopies_171 rfl (by rw [ex55]; rfl) (by decide) rfl ?_
      refine rn_goto (pc := 174) (tgt := 12) dX12_findCopies_174 (by decide) ?_
      cases h21
      exact rn_sub [1, 2, 0] rfl (k0 _ rfl)
theorem btX12_findCopies_12 {l : Launch} {G : Gt} {d : Nat} {t0 : Nat} {i1 : Int32} {s2 : Int32} {u : Mem} {y : (Int32 × Mem) ⊕ (Mem)} {o : Outcome} {u' : Mem} (h : bX12_findCopies_12 t0 i1 s2 u = some y) (k0 : ∀ s' : Int32 × Mem, y = .inl s' → Rn l G iX12_findCopies d 12 [(0, rv (some t0)), (1, .int i1), (2, .int s'.1)] [] s'.2 o u') (k1 : ∀ r : Mem, y = .inr (r) → Rn l G iX12_findCopies d 177 [(0, rv (some t0)), (1, .int i1)] [] r o u') : Rn l G iX12_findCopies d 12 [(0, rv (some t0)), (1, .int i1), (2, .int s2)] [] u o u' := by
  unfold bX12_findCopies_12 at h
  refine rn_iload_n (pc := 12) 2 dX12_findCopies_12 rfl rfl ?_
  refine rn_bipush (pc := 13) (v := 20) dX12_findCopies_13 (by decide) ?_
  rcases if_elim h with ⟨c3, h1⟩ | ⟨c3, h1⟩
  · refine rn_ige_f (pc := 15) 177 dX12_findCopies_15 (by decide) c3 ?_
    refine rn_iconst (pc := 18) (v := -1) dX12_findCopies_18 (by decide) ?_
    refine rn_istore_n (pc := 19) (lv' := [(3, .int (-1 : Int32)), (0, rv (some t0)), (1, .int i1), (2, .int s2)]) dX12_findCopies_19 rfl (by decide) rfl ?_
    refine rn_iconst (pc := 20) (v := 0) dX12_findCopies_20 (by decide) ?_
    refine rn_istore (pc := 21) (lv' := [(4, .int (0 : Int32)), (3, .int (-1 : Int32)), (0, rv (some t0)), (1, .int i1), (2, .int s2)]) dX12_findCopies_21 (by decide) rfl ?_
    obtain ⟨r34, hr34, h2⟩ := bnd_some h1
    refine rn_sub [2, 3, 4, 1, 0] rfl (lX12_findCopies_23 hr34 ?_)
    exact rn_sub [0, 1, 2, 3] rfl (jtX12_findCopies_12_115 h2 k0 k1)
  · refine rn_ige_t (pc := 15) (tgt := 177) dX12_findCopies_15 (by decide) c3 ?_
    cases h1
    exact rn_sub [0, 1] rfl (k1 _ rfl)
theorem lX12_findCopies_12 {l : Launch} {G : Gt} {d : Nat} {t0 : Nat} {i1 : Int32} {N : Nat} {s0 : Int32 × Mem} {r : Mem} {o : Outcome} {u' : Mem} (h : lp (fun s : Int32 × Mem => bX12_findCopies_12 t0 i1 s.1 s.2) N s0 = some r) (k1 : Rn l G iX12_findCopies d 177 [(0, rv (some t0)), (1, .int i1)] [] r o u') : Rn l G iX12_findCopies d 12 [(0, rv (some t0)), (1, .int i1), (2, .int s0.1)] [] s0.2 o u' :=
  lp_run (P := fun s : Int32 × Mem => Rn l G iX12_findCopies d 12 [(0, rv (some t0)), (1, .int i1), (2, .int s.1)] [] s.2 o u') (E := fun r => Rn l G iX12_findCopies d 177 [(0, rv (some t0)), (1, .int i1)] [] r o u') (fun s y hy k0 kE => btX12_findCopies_12 hy (fun s' e => k0 s' e) (fun r e => kE r e)) N s0 r h k1
theorem btX12_findCopies_2 {l : Launch} {G : Gt} {d : Nat} {t0 : Nat} {s1 : Int32} {u : Mem} {y : (Int32 × Mem) ⊕ (Mem)} {o : Outcome} {u' : Mem} (h : bX12_findCopies_2 t0 s1 u = some y) (k0 : ∀ s' : Int32 × Mem, y = .inl s' → Rn l G iX12_findCopies d 2 [(0, rv (some t0)), (1, .int s'.1)] [] s'.2 o u') (k1 : ∀ r : Mem, y = .inr (r) → Rn l G iX12_findCopies d 183 [] [] r o u') : Rn l G iX12_findCopies d 2 [(0, rv (some t0)), (1, .int s1)] [] u o u' := by
  unfold bX12_findCopies_2 at h
  refine rn_iload_n (pc := 2) 1 dX12_findCopies_2 rfl rfl ?_
  refine rn_aload_n (pc := 3) 0 dX12_findCopies_3 rfl rfl ?_
  obtain ⟨v1, hv1, h1⟩ := bnd_some h
  refine rn_getI (pc := 4) (k := 26) okX12 (by decide) tw_1019 rfl dX12_findCopies_4 hv1 ?_
  rcases if_elim h1 with ⟨c2, h2⟩ | ⟨c2, h2⟩
  · refine rn_ige_f (pc := 7) 183 dX12_findCopies_7 (by decide) c2 ?_
    refine rn_iconst (pc := 10) (v := 0) dX12_findCopies_10 (by decide) ?_
    refine rn_istore_n (pc := 11) (lv' := [(2, .int (0 : Int32)), (0, rv (some t0)), (1, .int s1)]) dX12_findCopies_11 rfl (by decide) rfl ?_
    obtain ⟨r56, hr56, h3⟩ := bnd_some h2
    refine rn_sub [1, 2, 0] rfl (lX12_findCopies_12 hr56 ?_)
    obtain ⟨x57, ex57, h4⟩ := nm_elim h3
    refine rn_iinc (pc := 177) (v := x57) (lv' := [(1, .int x57), (0, rv (some t0))]) 1 dX12_findCopies_177 rfl (by rw [ex57]; rfl) (by decide) rfl ?_
    refine rn_goto (pc := 180) (tgt := 2) dX12_findCopies_180 (by decide) ?_
    cases h4
    exact rn_sub [1, 0] rfl (k0 _ rfl)
  · refine rn_ige_t (pc := 7) (tgt := 183) dX12_findCopies_7 (by decide) c2 ?_
    cases h2
    exact rn_sub [] rfl (k1 _ rfl)
theorem lX12_findCopies_2 {l : Launch} {G : Gt} {d : Nat} {t0 : Nat} {N : Nat} {s0 : Int32 × Mem} {r : Mem} {o : Outcome} {u' : Mem} (h : lp (fun s : Int32 × Mem => bX12_findCopies_2 t0 s.1 s.2) N s0 = some r) (k1 : Rn l G iX12_findCopies d 183 [] [] r o u') : Rn l G iX12_findCopies d 2 [(0, rv (some t0)), (1, .int s0.1)] [] s0.2 o u' :=
  lp_run (P := fun s : Int32 × Mem => Rn l G iX12_findCopies d 2 [(0, rv (some t0)), (1, .int s.1)] [] s.2 o u') (E := fun r => Rn l G iX12_findCopies d 183 [] [] r o u') (fun s y hy k0 kE => btX12_findCopies_2 hy (fun s' e => k0 s' e) (fun r e => kE r e)) N s0 r h k1
theorem tX12_findCopies {l : Launch} {G : Gt} {d : Nat} {t0 : Nat} {u : Mem} {y : Mem} (h : fX12_findCopies t0 u = some y) : Rn l G iX12_findCopies d 0 [(0, rv (some t0))] [] u (.returned none) y := by
  unfold fX12_findCopies at h
  refine rn_iconst (pc := 0) (v := 0) dX12_findCopies_0 (by decide) ?_
  refine rn_istore_n (pc := 1) (lv' := [(1, .int (0 : Int32)), (0, rv (some t0))]) dX12_findCopies_1 rfl (by decide) rfl ?_
  obtain ⟨r58, hr58, h1⟩ := bnd_some h
  refine rn_sub [1, 0] rfl (lX12_findCopies_2 hr58 ?_)
  cases h1
  exact rn_vret (pc := 183) rfl dX12_findCopies_183
theorem eX12_findCopies {l : Launch} {G : Gt} {d : Nat} {t0 : Nat} {u : Mem} {y : Mem} (h : fX12_findCopies t0 u = some y) : Ex l G iX12_findCopies d [rv (some t0)] u (.returned none) y := Ex.of (by decide +kernel) (by decide) (Nat.le_of_ble_eq_true rfl) rfl (tX12_findCopies h)
theorem btX12_copiesOf_6 {l : Launch} {G : Gt} {d : Nat} {t0 : Nat} {i1 : Int32} {i2 : Int32} {i3 : Int32} {u : Mem} {s4 : Int32} {s5 : Int32} {y : (Int32 × Int32) ⊕ (Int32)} {o : Outcome} {u' : Mem} (h : bX12_copiesOf_6 t0 i1 i2 i3 u s4 s5 = some y) (k0 : ∀ s' : Int32 × Int32, y = .inl s' → Rn l G iX12_copiesOf d 6 [(0, rv (some t0)), (1, .int i1), (2, .int i2), (3, .int i3), (4, .int s'.1), (5, .int s'.2)] [] u o u') (k1 : ∀ r : Int32, y = .inr (r) → Rn l G iX12_copiesOf d 68 [(4, .int r)] [] u o u') : Rn l G iX12_copiesOf d 6 [(0, rv (some t0)), (1, .int i1), (2, .int i2), (3, .int i3), (4, .int s4), (5, .int s5)] [] u o u' := by
  unfold bX12_copiesOf_6 at h
  refine rn_iload (pc := 6) 5 dX12_copiesOf_6 rfl ?_
  refine rn_aload_n (pc := 8) 0 dX12_copiesOf_8 rfl rfl ?_
  obtain ⟨v1, hv1, h1⟩ := bnd_some h
  refine rn_getI (pc := 9) (k := 26) okX12 (by decide) tw_1019 rfl dX12_copiesOf_9 hv1 ?_
  rcases if_elim h1 with ⟨c2, h2⟩ | ⟨c2, h2⟩
  · refine rn_ige_f (pc := 12) 68 dX12_copiesOf_12 (by decide) c2 ?_
    refine rn_iload (pc := 15) 4 dX12_copiesOf_15 rfl ?_
    refine rn_aload_n (pc := 17) 0 dX12_copiesOf_17 rfl rfl ?_
    obtain ⟨v3, hv3, h3⟩ := bnd_some h2
    refine rn_getR (pc := 18) (k := 32) okX12 (by decide) tw_1025 rfl dX12_copiesOf_18 hv3 ?_
    refine rn_iload (pc := 21) 5 dX12_copiesOf_21 rfl ?_
    obtain ⟨v4, hv4, h4⟩ := bnd_some h3
    refine rn_iald (pc := 23) dX12_copiesOf_23 hv4 ?_
    refine rn_iload_n (pc := 24) 1 dX12_copiesOf_24 rfl rfl ?_
    rcases if_elim h4 with ⟨c5, h5⟩ | ⟨c5, h5⟩
    · refine rn_ine_f (pc := 25) 58 dX12_copiesOf_25 (by decide) c5 ?_
      refine rn_aload_n (pc := 28) 0 dX12_copiesOf_28 rfl rfl ?_
      obtain ⟨v6, hv6, h6⟩ := bnd_some h5
      refine rn_getR (pc := 29) (k := 34) okX12 (by decide) tw_1027 rfl dX12_copiesOf_29 hv6 ?_
      refine rn_iload (pc := 32) 5 dX12_copiesOf_32 rfl ?_
      obtain ⟨v7, hv7, h7⟩ := bnd_some h6
      refine rn_iald (pc := 34) dX12_copiesOf_34 hv7 ?_
      refine rn_iload_n (pc := 35) 3 dX12_copiesOf_35 rfl rfl ?_
      rcases if_elim h7 with ⟨c8, h8⟩ | ⟨c8, h8⟩
      · refine rn_igt_t (pc := 36) (tgt := 58) dX12_copiesOf_36 (by decide) c8 ?_
        refine rn_iconst (pc := 58) (v := 0) dX12_copiesOf_58 (by decide) ?_
        refine rn_iadd (pc := 59) dX12_copiesOf_59 ?_
        obtain ⟨x9, ex9, h9⟩ := nm_elim h8
        refine rn_topi ex9 ?_
        refine rn_istore (pc := 60) (lv' := [(4, .int x9), (0, rv (some t0)), (1, .int i1), (2, .int i2), (3, .int i3), (5, .int s5)]) dX12_copiesOf_60 (by decide) rfl ?_
        obtain ⟨x10, ex10, h10⟩ := nm_elim h9
        refine rn_iinc (pc := 62) (v := x10) (lv' := [(5, .int x10), (4, .int x9), (0, rv (some t0)), (1, .int i1), (2, .int i2), (3, .int i3)]) 5 dX12_copiesOf_62 rfl (by rw [ex10]; rfl) (by decide) rfl ?_
        refine rn_goto (pc := 65) (tgt := 6) dX12_copiesOf_65 (by decide) ?_
        cases h10
        exact rn_sub [2, 3, 4, 5, 1, 0] rfl (k0 _ rfl)
      · refine rn_igt_f (pc := 36) 58 dX12_copiesOf_36 (by decide) c8 ?_
        refine rn_aload_n (pc := 39) 0 dX12_copiesOf_39 rfl rfl ?_
        obtain ⟨v11, hv11, h11⟩ := bnd_some h8
        refine rn_getR (pc := 40) (k := 44) okX12 (by decide) tw_1037 rfl dX12_copiesOf_40 hv11 ?_
        refine rn_bipush (pc := 43) (v := 20) dX12_copiesOf_43 (by decide) ?_
        refine rn_iload (pc := 45) 5 dX12_copiesOf_45 rfl ?_
        refine rn_imul (pc := 47) dX12_copiesOf_47 ?_
        refine rn_iload_n (pc := 48) 2 dX12_copiesOf_48 rfl rfl ?_
        refine rn_iadd (pc := 49) dX12_copiesOf_49 ?_
        obtain ⟨v12, hv12, h12⟩ := bnd_some h11
        refine rn_zald (pc := 50) dX12_copiesOf_50 hv12 ?_
        rcases if_elim h12 with ⟨c13, h13⟩ | ⟨c13, h13⟩
        · refine rn_zeq_t (pc := 51) (tgt := 58) dX12_copiesOf_51 (by decide) c13 ?_
          refine rn_iconst (pc := 58) (v := 0) dX12_copiesOf_58 (by decide) ?_
          refine rn_iadd (pc := 59) dX12_copiesOf_59 ?_
          obtain ⟨x14, ex14, h14⟩ := nm_elim h13
          refine rn_topi ex14 ?_
          refine rn_istore (pc := 60) (lv' := [(4, .int x14), (0, rv (some t0)), (1, .int i1), (2, .int i2), (3, .int i3), (5, .int s5)]) dX12_copiesOf_60 (by decide) rfl ?_
          obtain ⟨x15, ex15, h15⟩ := nm_elim h14
          refine rn_iinc (pc := 62) (v := x15) (lv' := [(5, .int x15), (4, .int x14), (0, rv (some t0)), (1, .int i1), (2, .int i2), (3, .int i3)]) 5 dX12_copiesOf_62 rfl (by rw [ex15]; rfl) (by decide) rfl ?_
          refine rn_goto (pc := 65) (tgt := 6) dX12_copiesOf_65 (by decide) ?_
          cases h15
          exact rn_sub [2, 3, 4, 5, 1, 0] rfl (k0 _ rfl)
        · refine rn_zeq_f (pc := 51) 58 dX12_copiesOf_51 (by decide) c13 ?_
          refine rn_iconst (pc := 54) (v := 1) dX12_copiesOf_54 (by decide) ?_
          refine rn_goto (pc := 55) (tgt := 59) dX12_copiesOf_55 (by decide) ?_
          refine rn_iadd (pc := 59) dX12_copiesOf_59 ?_
          obtain ⟨x16, ex16, h16⟩ := nm_elim h13
          refine rn_topi ex16 ?_
          refine rn_istore (pc := 60) (lv' := [(4, .int x16), (0, rv (some t0)), (1, .int i1), (2, .int i2), (3, .int i3), (5, .int s5)]) dX12_copiesOf_60 (by decide) rfl ?_
          obtain ⟨x17, ex17, h17⟩ := nm_elim h16
          refine rn_iinc (pc := 62) (v := x17) (lv' := [(5, .int x17), (4, .int x16), (0, rv (some t0)), (1, .int i1), (2, .int i2), (3, .int i3)]) 5 dX12_copiesOf_62 rfl (by rw [ex17]; rfl) (by decide) rfl ?_
          refine rn_goto (pc := 65) (tgt := 6) dX12_copiesOf_65 (by decide) ?_
          cases h17
          exact rn_sub [2, 3, 4, 5, 1, 0] rfl (k0 _ rfl)
    · refine rn_ine_t (pc := 25) (tgt := 58) dX12_copiesOf_25 (by decide) c5 ?_
      refine rn_iconst (pc := 58) (v := 0) dX12_copiesOf_58 (by decide) ?_
      refine rn_iadd (pc := 59) dX12_copiesOf_59 ?_
      obtain ⟨x18, ex18, h18⟩ := nm_elim h5
      refine rn_topi ex18 ?_
      refine rn_istore (pc := 60) (lv' := [(4, .int x18), (0, rv (some t0)), (1, .int i1), (2, .int i2), (3, .int i3), (5, .int s5)]) dX12_copiesOf_60 (by decide) rfl ?_
      obtain ⟨x19, ex19, h19⟩ := nm_elim h18
      refine rn_iinc (pc := 62) (v := x19) (lv' := [(5, .int x19), (4, .int x18), (0, rv (some t0)), (1, .int i1), (2, .int i2), (3, .int i3)]) 5 dX12_copiesOf_62 rfl (by rw [ex19]; rfl) (by decide) rfl ?_
      refine rn_goto (pc := 65) (tgt := 6) dX12_copiesOf_65 (by decide) ?_
      cases h19
      exact rn_sub [2, 3, 4, 5, 1, 0] rfl (k0 _ rfl)
  · refine rn_ige_t (pc := 12) (tgt := 68) dX12_copiesOf_12 (by decide) c2 ?_
    cases h2
    exact rn_sub [4] rfl (k1 _ rfl)
theorem lX12_copiesOf_6 {l : Launch} {G : Gt} {d : Nat} {t0 : Nat} {i1 : Int32} {i2 : Int32} {i3 : Int32} {u : Mem} {N : Nat} {s0 : Int32 × Int32} {r : Int32} {o : Outcome} {u' : Mem} (h : lp (fun s : Int32 × Int32 => bX12_copiesOf_6 t0 i1 i2 i3 u s.1 s.2) N s0 = some r) (k1 : Rn l G iX12_copiesOf d 68 [(4, .int r)] [] u o u') : Rn l G iX12_copiesOf d 6 [(0, rv (some t0)), (1, .int i1), (2, .int i2), (3, .int i3), (4, .int s0.1), (5, .int s0.2)] [] u o u' :=
  lp_run (P := fun s : Int32 × Int32 => Rn l G iX12_copiesOf d 6 [(0, rv (some t0)), (1, .int i1), (2, .int i2), (3, .int i3), (4, .int s.1), (5, .int s.2)] [] u o u') (E := fun r => Rn l G iX12_copiesOf d 68 [(4, .int r)] [] u o u') (fun s y hy k0 kE => btX12_copiesOf_6 hy (fun s' e => k0 s' e) (fun r e => kE r e)) N s0 r h k1
theorem tX12_copiesOf {l : Launch} {G : Gt} {d : Nat} {t0 : Nat} {p1 : Int32} {p2 : Int32} {p3 : Int32} {u : Mem} {y : Int32} (h : fX12_copiesOf t0 p1 p2 p3 u = some y) : Rn l G iX12_copiesOf d 0 [(0, rv (some t0)), (1, .int p1), (2, .int p2), (3, .int p3)] [] u (.returned (some (.int y))) u := by
  unfold fX12_copiesOf at h
  refine rn_iconst (pc := 0) (v := 0) dX12_copiesOf_0 (by decide) ?_
  refine rn_istore (pc := 1) (lv' := [(4, .int (0 : Int32)), (0, rv (some t0)), (1, .int p1), (2, .int p2), (3, .int p3)]) dX12_copiesOf_1 (by decide) rfl ?_
  refine rn_iconst (pc := 3) (v := 0) dX12_copiesOf_3 (by decide) ?_
  refine rn_istore (pc := 4) (lv' := [(5, .int (0 : Int32)), (4, .int (0 : Int32)), (0, rv (some t0)), (1, .int p1), (2, .int p2), (3, .int p3)]) dX12_copiesOf_4 (by decide) rfl ?_
  obtain ⟨r20, hr20, h1⟩ := bnd_some h
  refine rn_sub [2, 3, 4, 5, 1, 0] rfl (lX12_copiesOf_6 hr20 ?_)
  refine rn_iload (pc := 68) 0 dX12_copiesOf_68 rfl ?_
  cases h1
  exact rn_iret (pc := 70) rfl dX12_copiesOf_70
theorem eX12_copiesOf {l : Launch} {G : Gt} {d : Nat} {t0 : Nat} {p1 : Int32} {p2 : Int32} {p3 : Int32} {u : Mem} {y : Int32} (h : fX12_copiesOf t0 p1 p2 p3 u = some y) : Ex l G iX12_copiesOf d [rv (some t0), .int p1, .int p2, .int p3] u (.returned (some (.int y))) u := Ex.of (by decide +kernel) (by decide) (Nat.le_of_ble_eq_true rfl) rfl (tX12_copiesOf h)
theorem tX12_rows {l : Launch} {G : Gt} {d : Nat} {t0 : Nat} {p1 : Int32} {p2 : Int32} {p3 : Int32} {u : Mem} {y : Int32 × Mem} (h : fX12_rows t0 p1 p2 p3 u = some y) : Rn l G iX12_rows (d + 5) 0 [(0, rv (some t0)), (1, .int p1), (2, .int p2), (3, .int p3)] [] u (.returned (some (.int y.1))) y.2 := by
  unfold fX12_rows at h
  refine rn_iload_n (pc := 0) 1 dX12_rows_0 rfl rfl ?_
  obtain ⟨v1, hv1, h1⟩ := bnd_some h
  refine rn_callS (pc := 1) (n := 1) (As := [.int p1]) (rest := []) (eX12_isGuesser (d := d + 3) hv1) (by omega) tw_1251 tw_79 tw_1249 tw_1250 (by decide +kernel) rfl (Nat.le_of_ble_eq_true rfl) dX12_rows_1 rfl ?_
  rcases if_elim h1 with ⟨c2, h2⟩ | ⟨c2, h2⟩
  · refine rn_zeq_t (pc := 4) (tgt := 25) dX12_rows_4 (by decide) c2 ?_
    refine rn_bipush (pc := 25) (v := -2) dX12_rows_25 (by decide) ?_
    cases h2
    exact rn_iret (pc := 27) rfl dX12_rows_27
  · refine rn_zeq_f (pc := 4) 25 dX12_rows_4 (by decide) c2 ?_
    refine rn_aload_n (pc := 7) 0 dX12_rows_7 rfl rfl ?_
    refine rn_iload_n (pc := 8) 2 dX12_rows_8 rfl rfl ?_
    obtain ⟨b3, hb3, h3⟩ := bnd_some h2
    obtain ⟨qb3, kb3⟩ := chk_elim hb3
    cases qb3
    obtain ⟨v4, hv4, h4⟩ := bnd_some h3
    refine rn_callV (pc := 9) (n := 1) (As := [.int p2]) (rest := []) (eX12_isQuestion (d := d + 3) hv4) (by omega) okX12 kb3 tw_1243 tw_79 tw_1241 tw_1242 tw_43 (by decide +kernel) rfl (Nat.le_of_ble_eq_true rfl) dX12_rows_9 rfl ?_
    rcases if_elim h4 with ⟨c5, h5⟩ | ⟨c5, h5⟩
    · refine rn_zeq_t (pc := 12) (tgt := 25) dX12_rows_12 (by decide) c5 ?_
      refine rn_bipush (pc := 25) (v := -2) dX12_rows_25 (by decide) ?_
      cases h5
      exact rn_iret (pc := 27) rfl dX12_rows_27
    · refine rn_zeq_f (pc := 12) 25 dX12_rows_12 (by decide) c5 ?_
      refine rn_iload_n (pc := 15) 3 dX12_rows_15 rfl rfl ?_
      refine rn_i2l (pc := 16) dX12_rows_16 ?_
      refine rn_lconst (pc := 17) (v := 0) dX12_rows_17 (by decide) ?_
      refine rn_lconst (pc := 18) (v := 1) dX12_rows_18 (by decide) ?_
      obtain ⟨v6, hv6, h6⟩ := bnd_some h5
      refine rn_callS (pc := 19) (n := 3) (As := [.long (Int32.toInt64 p3), .long (0 : Int64), .long (1 : Int64)]) (rest := []) (eX12_in (d := d + 4) hv6) (by omega) tw_1177 tw_79 tw_1175 tw_1176 (by decide +kernel) rfl (Nat.le_of_ble_eq_true rfl) dX12_rows_19 rfl ?_
      rcases if_elim h6 with ⟨c7, h7⟩ | ⟨c7, h7⟩
      · refine rn_zne_f (pc := 22) 28 dX12_rows_22 (by decide) c7 ?_
        refine rn_bipush (pc := 25) (v := -2) dX12_rows_25 (by decide) ?_
        cases h7
        exact rn_iret (pc := 27) rfl dX12_rows_27
      · refine rn_zne_t (pc := 22) (tgt := 28) dX12_rows_22 (by decide) c7 ?_
        refine rn_aload_n (pc := 28) 0 dX12_rows_28 rfl rfl ?_
        obtain ⟨b8, hb8, h8⟩ := bnd_some h7
        obtain ⟨qb8, kb8⟩ := chk_elim hb8
        cases qb8
        obtain ⟨u9, hu9, h9⟩ := bnd_some h8
        refine rn_callV (pc := 29) (n := 0) (As := []) (rest := []) (eX12_prepare (d := d + 0) hu9) (by omega) okX12 kb8 tw_1270 tw_79 tw_1268 tw_1269 tw_45 (by decide +kernel) rfl (Nat.le_of_ble_eq_true rfl) dX12_rows_29 rfl ?_
        refine rn_iload_n (pc := 32) 3 dX12_rows_32 rfl rfl ?_
        rcases if_elim h9 with ⟨c10, h10⟩ | ⟨c10, h10⟩
        · refine rn_zne_f (pc := 33) 49 dX12_rows_33 (by decide) c10 ?_
          refine rn_aload_n (pc := 36) 0 dX12_rows_36 rfl rfl ?_
          obtain ⟨v11, hv11, h11⟩ := bnd_some h10
          refine rn_getR (pc := 37) (k := 40) okX12 (by decide) tw_1033 rfl dX12_rows_37 hv11 ?_
          refine rn_iload_n (pc := 40) 1 dX12_rows_40 rfl rfl ?_
          refine rn_iload_n (pc := 41) 2 dX12_rows_41 rfl rfl ?_
          obtain ⟨v12, hv12, h12⟩ := bnd_some h11
          refine rn_callS (pc := 42) (n := 2) (As := [.int p1, .int p2]) (rest := [rv v11]) (eX12_pair (d := d + 4) hv12) (by omega) tw_1273 tw_79 tw_1271 tw_1272 (by decide +kernel) rfl (cat_le8 (Nat.le_of_ble_eq_true rfl)) dX12_rows_42 rfl ?_
          obtain ⟨v13, hv13, h13⟩ := bnd_some h12
          refine rn_iald (pc := 45) dX12_rows_45 hv13 ?_
          refine rn_goto (pc := 46) (tgt := 59) dX12_rows_46 (by decide) ?_
          cases h13
          exact rn_iret (pc := 59) rfl dX12_rows_59
        · refine rn_zne_t (pc := 33) (tgt := 49) dX12_rows_33 (by decide) c10 ?_
          refine rn_aload_n (pc := 49) 0 dX12_rows_49 rfl rfl ?_
          obtain ⟨v14, hv14, h14⟩ := bnd_some h10
          refine rn_getR (pc := 50) (k := 41) okX12 (by decide) tw_1034 rfl dX12_rows_50 hv14 ?_
          refine rn_iload_n (pc := 53) 1 dX12_rows_53 rfl rfl ?_
          refine rn_iload_n (pc := 54) 2 dX12_rows_54 rfl rfl ?_
          obtain ⟨v15, hv15, h15⟩ := bnd_some h14
          refine rn_callS (pc := 55) (n := 2) (As := [.int p1, .int p2]) (rest := [rv v14]) (eX12_pair (d := d + 4) hv15) (by omega) tw_1273 tw_79 tw_1271 tw_1272 (by decide +kernel) rfl (cat_le8 (Nat.le_of_ble_eq_true rfl)) dX12_rows_55 rfl ?_
          obtain ⟨v16, hv16, h16⟩ := bnd_some h15
          refine rn_iald (pc := 58) dX12_rows_58 hv16 ?_
          cases h16
          exact rn_iret (pc := 59) rfl dX12_rows_59
theorem eX12_rows {l : Launch} {G : Gt} {d : Nat} {t0 : Nat} {p1 : Int32} {p2 : Int32} {p3 : Int32} {u : Mem} {y : Int32 × Mem} (h : fX12_rows t0 p1 p2 p3 u = some y) : Ex l G iX12_rows (d + 5) [rv (some t0), .int p1, .int p2, .int p3] u (.returned (some (.int y.1))) y.2 := Ex.of (by decide +kernel) (by decide) (Nat.le_of_ble_eq_true rfl) rfl (tX12_rows h)
theorem btX12_findMean_12 {l : Launch} {G : Gt} {d : Nat} {t0 : Nat} {i1 : Int32} {s2 : Int32} {u : Mem} {y : (Int32 × Mem) ⊕ (Mem)} {o : Outcome} {u' : Mem} (h : bX12_findMean_12 t0 i1 s2 u = some y) (k0 : ∀ s' : Int32 × Mem, y = .inl s' → Rn l G iX12_findMean (d + 2) 12 [(0, rv (some t0)), (1, .int i1), (2, .int s'.1)] [] s'.2 o u') (k1 : ∀ r : Mem, y = .inr (r) → Rn l G iX12_findMean (d + 2) 76 [] [] r o u') : Rn l G iX12_findMean (d + 2) 12 [(0, rv (some t0)), (1, .int i1), (2, .int s2)] [] u o u' := by
  unfold bX12_findMean_12 at h
  refine rn_iload_n (pc := 12) 2 dX12_findMean_12 rfl rfl ?_
  refine rn_aload_n (pc := 13) 0 dX12_findMean_13 rfl rfl ?_
  obtain ⟨v3, hv3, h1⟩ := bnd_some h
  refine rn_getI (pc := 14) (k := 25) okX12 (by decide) tw_1018 rfl dX12_findMean_14 hv3 ?_
  rcases if_elim h1 with ⟨c4, h2⟩ | ⟨c4, h2⟩
  · refine rn_ige_f (pc := 17) 76 dX12_findMean_17 (by decide) c4 ?_
    refine rn_aload_n (pc := 20) 0 dX12_findMean_20 rfl rfl ?_
    refine rn_iload_n (pc := 21) 1 dX12_findMean_21 rfl rfl ?_
    refine rn_iload_n (pc := 22) 2 dX12_findMean_22 rfl rfl ?_
    obtain ⟨b5, hb5, h3⟩ := bnd_some h2
    obtain ⟨qb5, kb5⟩ := chk_elim hb5
    cases qb5
    obtain ⟨v6, hv6, h4⟩ := bnd_some h3
    refine rn_callV (pc := 23) (n := 2) (As := [.int i1, .int s2]) (rest := []) (eX12_counts (d := d + 0) hv6) (by omega) okX12 kb5 tw_1302 tw_79 tw_1300 tw_1301 tw_53 (by decide +kernel) rfl (Nat.le_of_ble_eq_true rfl) dX12_findMean_23 rfl ?_
    rcases if_elim h4 with ⟨c7, h5⟩ | ⟨c7, h5⟩
    · refine rn_zne_f (pc := 26) 32 dX12_findMean_26 (by decide) c7 ?_
      refine rn_goto (pc := 29) (tgt := 70) dX12_findMean_29 (by decide) ?_
      obtain ⟨x8, ex8, h6⟩ := nm_elim h5
      refine rn_iinc (pc := 70) (v := x8) (lv' := [(2, .int x8), (0, rv (some t0)), (1, .int i1)]) 2 dX12_findMean_70 rfl (by rw [ex8]; rfl) (by decide) rfl ?_
      refine rn_goto (pc := 73) (tgt := 12) dX12_findMean_73 (by decide) ?_
      cases h6
      exact rn_sub [1, 2, 0] rfl (k0 _ rfl)
    · refine rn_zne_t (pc := 26) (tgt := 32) dX12_findMean_26 (by decide) c7 ?_
      refine rn_aload_n (pc := 32) 0 dX12_findMean_32 rfl rfl ?_
      refine rn_dup (pc := 33) dX12_findMean_33 (rv_cat _) ?_
      obtain ⟨v9, hv9, h7⟩ := bnd_some h5
      refine rn_getI (pc := 34) (k := 45) okX12 (by decide) tw_1038 rfl dX12_findMean_34 hv9 ?_
      refine rn_aload_n (pc := 37) 0 dX12_findMean_37 rfl rfl ?_
      obtain ⟨v10, hv10, h8⟩ := bnd_some h7
      refine rn_getR (pc := 38) (k := 41) okX12 (by decide) tw_1034 rfl dX12_findMean_38 hv10 ?_
      refine rn_iload_n (pc := 41) 1 dX12_findMean_41 rfl rfl ?_
      refine rn_iload_n (pc := 42) 2 dX12_findMean_42 rfl rfl ?_
      obtain ⟨v11, hv11, h9⟩ := bnd_some h8
      refine rn_callS (pc := 43) (n := 2) (As := [.int i1, .int s2]) (rest := [rv v10, .int v9, rv (some t0)]) (eX12_pair (d := d + 1) hv11) (by omega) tw_1273 tw_79 tw_1271 tw_1272 (by decide +kernel) rfl (cat_le8 (Nat.le_of_ble_eq_true rfl)) dX12_findMean_43 rfl ?_
      obtain ⟨v12, hv12, h10⟩ := bnd_some h9
      refine rn_iald (pc := 46) dX12_findMean_46 hv12 ?_
      refine rn_iadd (pc := 47) dX12_findMean_47 ?_
      obtain ⟨u13, hu13, h11⟩ := bnd_some h10
      refine rn_putI (pc := 48) (k := 45) okX12 (by decide) tw_1038 (Or.inl rfl) (Or.inl rfl) dX12_findMean_48 hu13 ?_
      refine rn_aload_n (pc := 51) 0 dX12_findMean_51 rfl rfl ?_
      refine rn_dup (pc := 52) dX12_findMean_52 (rv_cat _) ?_
      obtain ⟨v14, hv14, h12⟩ := bnd_some h11
      refine rn_getI (pc := 53) (k := 46) okX12 (by decide) tw_1039 rfl dX12_findMean_53 hv14 ?_
      refine rn_aload_n (pc := 56) 0 dX12_findMean_56 rfl rfl ?_
      obtain ⟨v15, hv15, h13⟩ := bnd_some h12
      refine rn_getR (pc := 57) (k := 40) okX12 (by decide) tw_1033 rfl dX12_findMean_57 hv15 ?_
      refine rn_iload_n (pc := 60) 1 dX12_findMean_60 rfl rfl ?_
      refine rn_iload_n (pc := 61) 2 dX12_findMean_61 rfl rfl ?_
      obtain ⟨v16, hv16, h14⟩ := bnd_some h13
      refine rn_callS (pc := 62) (n := 2) (As := [.int i1, .int s2]) (rest := [rv v15, .int v14, rv (some t0)]) (eX12_pair (d := d + 1) hv16) (by omega) tw_1273 tw_79 tw_1271 tw_1272 (by decide +kernel) rfl (cat_le8 (Nat.le_of_ble_eq_true rfl)) dX12_findMean_62 rfl ?_
      obtain ⟨v17, hv17, h15⟩ := bnd_some h14
      refine rn_iald (pc := 65) dX12_findMean_65 hv17 ?_
      refine rn_iadd (pc := 66) dX12_findMean_66 ?_
      obtain ⟨u18, hu18, h16⟩ := bnd_some h15
      refine rn_putI (pc := 67) (k := 46) okX12 (by decide) tw_1039 (Or.inl rfl) (Or.inl rfl) dX12_findMean_67 hu18 ?_
      obtain ⟨x19, ex19, h17⟩ := nm_elim h16
      refine rn_iinc (pc := 70) (v := x19) (lv' := [(2, .int x19), (0, rv (some t0)), (1, .int i1)]) 2 dX12_findMean_70 rfl (by rw [ex19]; rfl) (by decide) rfl ?_
      refine rn_goto (pc := 73) (tgt := 12) dX12_findMean_73 (by decide) ?_
      cases h17
      exact rn_sub [1, 2, 0] rfl (k0 _ rfl)
  · refine rn_ige_t (pc := 17) (tgt := 76) dX12_findMean_17 (by decide) c4 ?_
    cases h2
    exact rn_sub [] rfl (k1 _ rfl)
theorem lX12_findMean_12 {l : Launch} {G : Gt} {d : Nat} {t0 : Nat} {i1 : Int32} {N : Nat} {s0 : Int32 × Mem} {r : Mem} {o : Outcome} {u' : Mem} (h : lp (fun s : Int32 × Mem => bX12_findMean_12 t0 i1 s.1 s.2) N s0 = some r) (k1 : Rn l G iX12_findMean (d + 2) 76 [] [] r o u') : Rn l G iX12_findMean (d + 2) 12 [(0, rv (some t0)), (1, .int i1), (2, .int s0.1)] [] s0.2 o u' :=
  lp_run (P := fun s : Int32 × Mem => Rn l G iX12_findMean (d + 2) 12 [(0, rv (some t0)), (1, .int i1), (2, .int s.1)] [] s.2 o u') (E := fun r => Rn l G iX12_findMean (d + 2) 76 [] [] r o u') (fun s y hy k0 kE => btX12_findMean_12 hy (fun s' e => k0 s' e) (fun r e => kE r e)) N s0 r h k1
theorem tX12_findMean {l : Launch} {G : Gt} {d : Nat} {t0 : Nat} {p1 : Int32} {u : Mem} {y : Mem} (h : fX12_findMean t0 p1 u = some y) : Rn l G iX12_findMean (d + 2) 0 [(0, rv (some t0)), (1, .int p1)] [] u (.returned none) y := by
  unfold fX12_findMean at h
  refine rn_aload_n (pc := 0) 0 dX12_findMean_0 rfl rfl ?_
  refine rn_iconst (pc := 1) (v := 0) dX12_findMean_1 (by decide) ?_
  obtain ⟨u1, hu1, h1⟩ := bnd_some h
  refine rn_putI (pc := 2) (k := 45) okX12 (by decide) tw_1038 (Or.inl rfl) (Or.inl rfl) dX12_findMean_2 hu1 ?_
  refine rn_aload_n (pc := 5) 0 dX12_findMean_5 rfl rfl ?_
  refine rn_iconst (pc := 6) (v := 0) dX12_findMean_6 (by decide) ?_
  obtain ⟨u2, hu2, h2⟩ := bnd_some h1
  refine rn_putI (pc := 7) (k := 46) okX12 (by decide) tw_1039 (Or.inl rfl) (Or.inl rfl) dX12_findMean_7 hu2 ?_
  refine rn_iconst (pc := 10) (v := 0) dX12_findMean_10 (by decide) ?_
  refine rn_istore_n (pc := 11) (lv' := [(2, .int (0 : Int32)), (0, rv (some t0)), (1, .int p1)]) dX12_findMean_11 rfl (by decide) rfl ?_
  obtain ⟨r20, hr20, h3⟩ := bnd_some h2
  refine rn_sub [1, 2, 0] rfl (lX12_findMean_12 hr20 ?_)
  cases h3
  exact rn_vret (pc := 76) rfl dX12_findMean_76
theorem eX12_findMean {l : Launch} {G : Gt} {d : Nat} {t0 : Nat} {p1 : Int32} {u : Mem} {y : Mem} (h : fX12_findMean t0 p1 u = some y) : Ex l G iX12_findMean (d + 2) [rv (some t0), .int p1] u (.returned none) y := Ex.of (by decide +kernel) (by decide) (Nat.le_of_ble_eq_true rfl) rfl (tX12_findMean h)
theorem btX12_common_4 {l : Launch} {G : Gt} {d : Nat} {u : Mem} {s2 : Int32} {s3 : Int32} {y : (Int32 × Int32) ⊕ (Int32)} {o : Outcome} {u' : Mem} (h : bX12_common_4 u s2 s3 = some y) (k0 : ∀ s' : Int32 × Int32, y = .inl s' → Rn l G iX12_common d 4 [(2, .int s'.1), (3, .int s'.2)] [] u o u') (k1 : ∀ r : Int32, y = .inr (r) → Rn l G iX12_common d 21 [(2, .int r)] [] u o u') : Rn l G iX12_common d 4 [(2, .int s2), (3, .int s3)] [] u o u' := by
  unfold bX12_common_4 at h
  refine rn_iload_n (pc := 4) 1 dX12_common_4 rfl rfl ?_
  rcases if_elim h with ⟨c1, h1⟩ | ⟨c1, h1⟩
  · refine rn_zeq_t (pc := 5) (tgt := 21) dX12_common_5 (by decide) c1 ?_
    cases h1
    exact rn_sub [0] rfl (k1 _ rfl)
  · refine rn_zeq_f (pc := 5) 21 dX12_common_5 (by decide) c1 ?_
    refine rn_iload_n (pc := 8) 0 dX12_common_8 rfl rfl ?_
    refine rn_iload_n (pc := 9) 1 dX12_common_9 rfl rfl ?_
    obtain ⟨z2, hz2, h2⟩ := bnd_some h1
    have hz2 := (nz32_elim hz2).2
    refine rn_irem (pc := 10) dX12_common_10 hz2 ?_
    obtain ⟨x3, ex3, h3⟩ := nm_elim h2
    refine rn_topi ex3 ?_
    refine rn_istore (pc := 11) (lv' := [(4, .int x3), (2, .int s2), (3, .int s3)]) dX12_common_11 (by decide) rfl ?_
    refine rn_iload_n (pc := 13) 2 dX12_common_13 rfl rfl ?_
    refine rn_istore_n (pc := 14) (lv' := [(2, .int s3), (4, .int x3), (3, .int s3)]) dX12_common_14 rfl (by decide) rfl ?_
    refine rn_iload (pc := 15) 1 dX12_common_15 rfl ?_
    refine rn_istore_n (pc := 17) (lv' := [(3, .int x3), (2, .int s3), (4, .int x3)]) dX12_common_17 rfl (by decide) rfl ?_
    refine rn_goto (pc := 18) (tgt := 4) dX12_common_18 (by decide) ?_
    cases h3
    exact rn_sub [1, 0] rfl (k0 _ rfl)
theorem lX12_common_4 {l : Launch} {G : Gt} {d : Nat} {u : Mem} {N : Nat} {s0 : Int32 × Int32} {r : Int32} {o : Outcome} {u' : Mem} (h : lp (fun s : Int32 × Int32 => bX12_common_4 u s.1 s.2) N s0 = some r) (k1 : Rn l G iX12_common d 21 [(2, .int r)] [] u o u') : Rn l G iX12_common d 4 [(2, .int s0.1), (3, .int s0.2)] [] u o u' :=
  lp_run (P := fun s : Int32 × Int32 => Rn l G iX12_common d 4 [(2, .int s.1), (3, .int s.2)] [] u o u') (E := fun r => Rn l G iX12_common d 21 [(2, .int r)] [] u o u') (fun s y hy k0 kE => btX12_common_4 hy (fun s' e => k0 s' e) (fun r e => kE r e)) N s0 r h k1
theorem tX12_common {l : Launch} {G : Gt} {d : Nat} {p0 : Int32} {p1 : Int32} {u : Mem} {y : Int32} (h : fX12_common p0 p1 u = some y) : Rn l G iX12_common d 0 [(0, .int p0), (1, .int p1)] [] u (.returned (some (.int y))) u := by
  unfold fX12_common at h
  refine rn_iload_n (pc := 0) 0 dX12_common_0 rfl rfl ?_
  refine rn_istore_n (pc := 1) (lv' := [(2, .int p0), (0, .int p0), (1, .int p1)]) dX12_common_1 rfl (by decide) rfl ?_
  refine rn_iload_n (pc := 2) 2 dX12_common_2 rfl rfl ?_
  refine rn_istore_n (pc := 3) (lv' := [(3, .int p1), (2, .int p0), (0, .int p0), (1, .int p1)]) dX12_common_3 rfl (by decide) rfl ?_
  obtain ⟨r4, hr4, h1⟩ := bnd_some h
  refine rn_sub [1, 0] rfl (lX12_common_4 hr4 ?_)
  refine rn_iload_n (pc := 21) 0 dX12_common_21 rfl rfl ?_
  cases h1
  exact rn_iret (pc := 22) rfl dX12_common_22
theorem eX12_common {l : Launch} {G : Gt} {d : Nat} {p0 : Int32} {p1 : Int32} {u : Mem} {y : Int32} (h : fX12_common p0 p1 u = some y) : Ex l G iX12_common d [.int p0, .int p1] u (.returned (some (.int y))) u := Ex.of (by decide +kernel) (by decide) (Nat.le_of_ble_eq_true rfl) rfl (tX12_common h)
theorem tX12_mean {l : Launch} {G : Gt} {d : Nat} {t0 : Nat} {p1 : Int32} {p2 : Int32} {u : Mem} {y : Int32 × Mem} (h : fX12_mean t0 p1 p2 u = some y) : Rn l G iX12_mean (d + 5) 0 [(0, rv (some t0)), (1, .int p1), (2, .int p2)] [] u (.returned (some (.int y.1))) y.2 := by
  unfold fX12_mean at h
  refine rn_iload_n (pc := 0) 1 dX12_mean_0 rfl rfl ?_
  obtain ⟨v1, hv1, h1⟩ := bnd_some h
  refine rn_callS (pc := 1) (n := 1) (As := [.int p1]) (rest := []) (eX12_isGuesser (d := d + 3) hv1) (by omega) tw_1251 tw_79 tw_1249 tw_1250 (by decide +kernel) rfl (Nat.le_of_ble_eq_true rfl) dX12_mean_1 rfl ?_
  rcases if_elim h1 with ⟨c2, h2⟩ | ⟨c2, h2⟩
  · refine rn_zeq_t (pc := 4) (tgt := 17) dX12_mean_4 (by decide) c2 ?_
    refine rn_bipush (pc := 17) (v := -2) dX12_mean_17 (by decide) ?_
    cases h2
    exact rn_iret (pc := 19) rfl dX12_mean_19
  · refine rn_zeq_f (pc := 4) 17 dX12_mean_4 (by decide) c2 ?_
    refine rn_iload_n (pc := 7) 2 dX12_mean_7 rfl rfl ?_
    refine rn_i2l (pc := 8) dX12_mean_8 ?_
    refine rn_lconst (pc := 9) (v := 0) dX12_mean_9 (by decide) ?_
    refine rn_lconst (pc := 10) (v := 1) dX12_mean_10 (by decide) ?_
    obtain ⟨v3, hv3, h3⟩ := bnd_some h2
    refine rn_callS (pc := 11) (n := 3) (As := [.long (Int32.toInt64 p2), .long (0 : Int64), .long (1 : Int64)]) (rest := []) (eX12_in (d := d + 4) hv3) (by omega) tw_1177 tw_79 tw_1175 tw_1176 (by decide +kernel) rfl (Nat.le_of_ble_eq_true rfl) dX12_mean_11 rfl ?_
    rcases if_elim h3 with ⟨c4, h4⟩ | ⟨c4, h4⟩
    · refine rn_zne_f (pc := 14) 20 dX12_mean_14 (by decide) c4 ?_
      refine rn_bipush (pc := 17) (v := -2) dX12_mean_17 (by decide) ?_
      cases h4
      exact rn_iret (pc := 19) rfl dX12_mean_19
    · refine rn_zne_t (pc := 14) (tgt := 20) dX12_mean_14 (by decide) c4 ?_
      refine rn_aload_n (pc := 20) 0 dX12_mean_20 rfl rfl ?_
      obtain ⟨b5, hb5, h5⟩ := bnd_some h4
      obtain ⟨qb5, kb5⟩ := chk_elim hb5
      cases qb5
      obtain ⟨u6, hu6, h6⟩ := bnd_some h5
      refine rn_callV (pc := 21) (n := 0) (As := []) (rest := []) (eX12_prepare (d := d + 0) hu6) (by omega) okX12 kb5 tw_1270 tw_79 tw_1268 tw_1269 tw_45 (by decide +kernel) rfl (Nat.le_of_ble_eq_true rfl) dX12_mean_21 rfl ?_
      refine rn_aload_n (pc := 24) 0 dX12_mean_24 rfl rfl ?_
      refine rn_iload_n (pc := 25) 1 dX12_mean_25 rfl rfl ?_
      obtain ⟨b7, hb7, h7⟩ := bnd_some h6
      obtain ⟨qb7, kb7⟩ := chk_elim hb7
      cases qb7
      obtain ⟨u8, hu8, h8⟩ := bnd_some h7
      refine rn_callV (pc := 26) (n := 1) (As := [.int p1]) (rest := []) (eX12_findMean (d := d + 2) hu8) (by omega) okX12 kb7 tw_1299 tw_79 tw_1297 tw_1298 tw_52 (by decide +kernel) rfl (Nat.le_of_ble_eq_true rfl) dX12_mean_26 rfl ?_
      refine rn_aload_n (pc := 29) 0 dX12_mean_29 rfl rfl ?_
      obtain ⟨v9, hv9, h9⟩ := bnd_some h8
      refine rn_getI (pc := 30) (k := 46) okX12 (by decide) tw_1039 rfl dX12_mean_30 hv9 ?_
      rcases if_elim h9 with ⟨c10, h10⟩ | ⟨c10, h10⟩
      · refine rn_zne_f (pc := 33) 38 dX12_mean_33 (by decide) c10 ?_
        refine rn_iconst (pc := 36) (v := 0) dX12_mean_36 (by decide) ?_
        cases h10
        exact rn_iret (pc := 37) rfl dX12_mean_37
      · refine rn_zne_t (pc := 33) (tgt := 38) dX12_mean_33 (by decide) c10 ?_
        refine rn_aload_n (pc := 38) 0 dX12_mean_38 rfl rfl ?_
        obtain ⟨v11, hv11, h11⟩ := bnd_some h10
        refine rn_getI (pc := 39) (k := 45) okX12 (by decide) tw_1038 rfl dX12_mean_39 hv11 ?_
        refine rn_aload_n (pc := 42) 0 dX12_mean_42 rfl rfl ?_
        obtain ⟨v12, hv12, h12⟩ := bnd_some h11
        refine rn_getI (pc := 43) (k := 46) okX12 (by decide) tw_1039 rfl dX12_mean_43 hv12 ?_
        obtain ⟨v13, hv13, h13⟩ := bnd_some h12
        refine rn_callS (pc := 46) (n := 2) (As := [.int v11, .int v12]) (rest := []) (eX12_common (d := d + 4) hv13) (by omega) tw_1305 tw_79 tw_1303 tw_1304 (by decide +kernel) rfl (Nat.le_of_ble_eq_true rfl) dX12_mean_46 rfl ?_
        refine rn_istore_n (pc := 49) (lv' := [(3, .int v13), (0, rv (some t0)), (1, .int p1), (2, .int p2)]) dX12_mean_49 rfl (by decide) rfl ?_
        refine rn_iload_n (pc := 50) 3 dX12_mean_50 rfl rfl ?_
        rcases if_elim h13 with ⟨c14, h14⟩ | ⟨c14, h14⟩
        · refine rn_zne_f (pc := 51) 63 dX12_mean_51 (by decide) c14 ?_
          refine rn_aload_n (pc := 54) 1 dX12_mean_54 rfl rfl ?_
          obtain ⟨v15, hv15, h15⟩ := bnd_some h14
          refine rn_getI (pc := 55) (k := 45) okX12 (by decide) tw_1038 rfl dX12_mean_55 hv15 ?_
          refine rn_iload_n (pc := 58) 0 dX12_mean_58 rfl rfl ?_
          obtain ⟨z16, hz16, h16⟩ := bnd_some h15
          have hz16 := (nz32_elim hz16).2
          refine rn_idiv (pc := 59) dX12_mean_59 hz16 ?_
          refine rn_goto (pc := 60) (tgt := 69) dX12_mean_60 (by decide) ?_
          cases h16
          exact rn_iret (pc := 69) rfl dX12_mean_69
        · refine rn_zne_t (pc := 51) (tgt := 63) dX12_mean_51 (by decide) c14 ?_
          refine rn_aload_n (pc := 63) 1 dX12_mean_63 rfl rfl ?_
          obtain ⟨v17, hv17, h17⟩ := bnd_some h14
          refine rn_getI (pc := 64) (k := 46) okX12 (by decide) tw_1039 rfl dX12_mean_64 hv17 ?_
          refine rn_iload_n (pc := 67) 0 dX12_mean_67 rfl rfl ?_
          obtain ⟨z18, hz18, h18⟩ := bnd_some h17
          have hz18 := (nz32_elim hz18).2
          refine rn_idiv (pc := 68) dX12_mean_68 hz18 ?_
          cases h18
          exact rn_iret (pc := 69) rfl dX12_mean_69
theorem eX12_mean {l : Launch} {G : Gt} {d : Nat} {t0 : Nat} {p1 : Int32} {p2 : Int32} {u : Mem} {y : Int32 × Mem} (h : fX12_mean t0 p1 p2 u = some y) : Ex l G iX12_mean (d + 5) [rv (some t0), .int p1, .int p2] u (.returned (some (.int y.1))) y.2 := Ex.of (by decide +kernel) (by decide) (Nat.le_of_ble_eq_true rfl) rfl (tX12_mean h)
theorem btX12_findMeans_6 {l : Launch} {G : Gt} {d : Nat} {t0 : Nat} {s1 : Int32} {u : Mem} {y : (Int32 × Mem) ⊕ (Mem)} {o : Outcome} {u' : Mem} (h : bX12_findMeans_6 t0 s1 u = some y) (k0 : ∀ s' : Int32 × Mem, y = .inl s' → Rn l G iX12_findMeans (d + 5) 6 [(0, rv (some t0)), (1, .int s'.1)] [] s'.2 o u') (k1 : ∀ r : Mem, y = .inr (r) → Rn l G iX12_findMeans (d + 5) 43 [] [] r o u') : Rn l G iX12_findMeans (d + 5) 6 [(0, rv (some t0)), (1, .int s1)] [] u o u' := by
  unfold bX12_findMeans_6 at h
  refine rn_iload_n (pc := 6) 1 dX12_findMeans_6 rfl rfl ?_
  refine rn_bipush (pc := 7) (v := 20) dX12_findMeans_7 (by decide) ?_
  rcases if_elim h with ⟨c3, h1⟩ | ⟨c3, h1⟩
  · refine rn_ige_f (pc := 9) 43 dX12_findMeans_9 (by decide) c3 ?_
    refine rn_aload_n (pc := 12) 0 dX12_findMeans_12 rfl rfl ?_
    refine rn_iload_n (pc := 13) 1 dX12_findMeans_13 rfl rfl ?_
    obtain ⟨b4, hb4, h2⟩ := bnd_some h1
    obtain ⟨qb4, kb4⟩ := chk_elim hb4
    cases qb4
    obtain ⟨u5, hu5, h3⟩ := bnd_some h2
    refine rn_callV (pc := 14) (n := 1) (As := [.int s1]) (rest := []) (eX12_findMean (d := d + 2) hu5) (by omega) okX12 kb4 tw_1299 tw_79 tw_1297 tw_1298 tw_52 (by decide +kernel) rfl (Nat.le_of_ble_eq_true rfl) dX12_findMeans_14 rfl ?_
    refine rn_aload_n (pc := 17) 0 dX12_findMeans_17 rfl rfl ?_
    obtain ⟨v6, hv6, h4⟩ := bnd_some h3
    refine rn_getR (pc := 18) (k := 47) okX12 (by decide) tw_1040 rfl dX12_findMeans_18 hv6 ?_
    refine rn_iload_n (pc := 21) 1 dX12_findMeans_21 rfl rfl ?_
    refine rn_aload_n (pc := 22) 0 dX12_findMeans_22 rfl rfl ?_
    obtain ⟨v7, hv7, h5⟩ := bnd_some h4
    refine rn_getI (pc := 23) (k := 45) okX12 (by decide) tw_1038 rfl dX12_findMeans_23 hv7 ?_
    obtain ⟨u8, hu8, h6⟩ := bnd_some h5
    refine rn_iast (pc := 26) dX12_findMeans_26 hu8 ?_
    refine rn_aload_n (pc := 27) 0 dX12_findMeans_27 rfl rfl ?_
    obtain ⟨v9, hv9, h7⟩ := bnd_some h6
    refine rn_getR (pc := 28) (k := 48) okX12 (by decide) tw_1041 rfl dX12_findMeans_28 hv9 ?_
    refine rn_iload_n (pc := 31) 1 dX12_findMeans_31 rfl rfl ?_
    refine rn_aload_n (pc := 32) 0 dX12_findMeans_32 rfl rfl ?_
    obtain ⟨v10, hv10, h8⟩ := bnd_some h7
    refine rn_getI (pc := 33) (k := 46) okX12 (by decide) tw_1039 rfl dX12_findMeans_33 hv10 ?_
    obtain ⟨u11, hu11, h9⟩ := bnd_some h8
    refine rn_iast (pc := 36) dX12_findMeans_36 hu11 ?_
    obtain ⟨x12, ex12, h10⟩ := nm_elim h9
    refine rn_iinc (pc := 37) (v := x12) (lv' := [(1, .int x12), (0, rv (some t0))]) 1 dX12_findMeans_37 rfl (by rw [ex12]; rfl) (by decide) rfl ?_
    refine rn_goto (pc := 40) (tgt := 6) dX12_findMeans_40 (by decide) ?_
    cases h10
    exact rn_sub [1, 0] rfl (k0 _ rfl)
  · refine rn_ige_t (pc := 9) (tgt := 43) dX12_findMeans_9 (by decide) c3 ?_
    cases h1
    exact rn_sub [] rfl (k1 _ rfl)
theorem lX12_findMeans_6 {l : Launch} {G : Gt} {d : Nat} {t0 : Nat} {N : Nat} {s0 : Int32 × Mem} {r : Mem} {o : Outcome} {u' : Mem} (h : lp (fun s : Int32 × Mem => bX12_findMeans_6 t0 s.1 s.2) N s0 = some r) (k1 : Rn l G iX12_findMeans (d + 5) 43 [] [] r o u') : Rn l G iX12_findMeans (d + 5) 6 [(0, rv (some t0)), (1, .int s0.1)] [] s0.2 o u' :=
  lp_run (P := fun s : Int32 × Mem => Rn l G iX12_findMeans (d + 5) 6 [(0, rv (some t0)), (1, .int s.1)] [] s.2 o u') (E := fun r => Rn l G iX12_findMeans (d + 5) 43 [] [] r o u') (fun s y hy k0 kE => btX12_findMeans_6 hy (fun s' e => k0 s' e) (fun r e => kE r e)) N s0 r h k1
theorem tX12_findMeans {l : Launch} {G : Gt} {d : Nat} {t0 : Nat} {u : Mem} {y : Mem} (h : fX12_findMeans t0 u = some y) : Rn l G iX12_findMeans (d + 5) 0 [(0, rv (some t0))] [] u (.returned none) y := by
  unfold fX12_findMeans at h
  refine rn_aload_n (pc := 0) 0 dX12_findMeans_0 rfl rfl ?_
  obtain ⟨b1, hb1, h1⟩ := bnd_some h
  obtain ⟨qb1, kb1⟩ := chk_elim hb1
  cases qb1
  obtain ⟨u2, hu2, h2⟩ := bnd_some h1
  refine rn_callV (pc := 1) (n := 0) (As := []) (rest := []) (eX12_prepare (d := d + 0) hu2) (by omega) okX12 kb1 tw_1270 tw_79 tw_1268 tw_1269 tw_45 (by decide +kernel) rfl (Nat.le_of_ble_eq_true rfl) dX12_findMeans_1 rfl ?_
  refine rn_iconst (pc := 4) (v := 0) dX12_findMeans_4 (by decide) ?_
  refine rn_istore_n (pc := 5) (lv' := [(1, .int (0 : Int32)), (0, rv (some t0))]) dX12_findMeans_5 rfl (by decide) rfl ?_
  obtain ⟨r13, hr13, h3⟩ := bnd_some h2
  refine rn_sub [1, 0] rfl (lX12_findMeans_6 hr13 ?_)
  cases h3
  exact rn_vret (pc := 43) rfl dX12_findMeans_43
theorem eX12_findMeans {l : Launch} {G : Gt} {d : Nat} {t0 : Nat} {u : Mem} {y : Mem} (h : fX12_findMeans t0 u = some y) : Ex l G iX12_findMeans (d + 5) [rv (some t0)] u (.returned none) y := Ex.of (by decide +kernel) (by decide) (Nat.le_of_ble_eq_true rfl) rfl (tX12_findMeans h)
theorem btX12_ranked_29 {l : Launch} {G : Gt} {d : Nat} {t0 : Nat} {i1 : Int32} {i2 : Int32} {u : Mem} {s3 : Int32} {s4 : Int32} {y : (Int32 × Int32) ⊕ (Int32)} {o : Outcome} {u' : Mem} (h : bX12_ranked_29 t0 i1 i2 u s3 s4 = some y) (k0 : ∀ s' : Int32 × Int32, y = .inl s' → Rn l G iX12_ranked (d + 6) 29 [(0, rv (some t0)), (1, .int i1), (2, .int i2), (3, .int s'.1), (4, .int s'.2)] [] u o u') (k1 : ∀ r : Int32, y = .inr (r) → Rn l G iX12_ranked (d + 6) 127 [(0, rv (some t0)), (1, .int i1), (2, .int i2), (3, .int r)] [] u o u') : Rn l G iX12_ranked (d + 6) 29 [(0, rv (some t0)), (1, .int i1), (2, .int i2), (3, .int s3), (4, .int s4)] [] u o u' := by
  unfold bX12_ranked_29 at h
  refine rn_iload (pc := 29) 4 dX12_ranked_29 rfl ?_
  refine rn_bipush (pc := 31) (v := 20) dX12_ranked_31 (by decide) ?_
  rcases if_elim h with ⟨c8, h1⟩ | ⟨c8, h1⟩
  · refine rn_ige_f (pc := 33) 127 dX12_ranked_33 (by decide) c8 ?_
    refine rn_aload_n (pc := 36) 0 dX12_ranked_36 rfl rfl ?_
    obtain ⟨v9, hv9, h2⟩ := bnd_some h1
    refine rn_getR (pc := 37) (k := 48) okX12 (by decide) tw_1041 rfl dX12_ranked_37 hv9 ?_
    refine rn_iload (pc := 40) 4 dX12_ranked_40 rfl ?_
    obtain ⟨v10, hv10, h3⟩ := bnd_some h2
    refine rn_iald (pc := 42) dX12_ranked_42 hv10 ?_
    rcases if_elim h3 with ⟨c11, h4⟩ | ⟨c11, h4⟩
    · refine rn_zeq_t (pc := 43) (tgt := 121) dX12_ranked_43 (by decide) c11 ?_
      obtain ⟨x12, ex12, h5⟩ := nm_elim h4
      refine rn_iinc (pc := 121) (v := x12) (lv' := [(4, .int x12), (0, rv (some t0)), (1, .int i1), (2, .int i2), (3, .int s3)]) 4 dX12_ranked_121 rfl (by rw [ex12]; rfl) (by decide) rfl ?_
      refine rn_goto (pc := 124) (tgt := 29) dX12_ranked_124 (by decide) ?_
      cases h5
      exact rn_sub [1, 2, 3, 4, 0] rfl (k0 _ rfl)
    · refine rn_zeq_f (pc := 43) 121 dX12_ranked_43 (by decide) c11 ?_
      refine rn_iload (pc := 46) 4 dX12_ranked_46 rfl ?_
      refine rn_iload_n (pc := 48) 2 dX12_ranked_48 rfl rfl ?_
      rcases if_elim h4 with ⟨c13, h6⟩ | ⟨c13, h6⟩
      · refine rn_ine_f (pc := 49) 55 dX12_ranked_49 (by decide) c13 ?_
        refine rn_goto (pc := 52) (tgt := 121) dX12_ranked_52 (by decide) ?_
        obtain ⟨x14, ex14, h7⟩ := nm_elim h6
        refine rn_iinc (pc := 121) (v := x14) (lv' := [(4, .int x14), (0, rv (some t0)), (1, .int i1), (2, .int i2), (3, .int s3)]) 4 dX12_ranked_121 rfl (by rw [ex14]; rfl) (by decide) rfl ?_
        refine rn_goto (pc := 124) (tgt := 29) dX12_ranked_124 (by decide) ?_
        cases h7
        exact rn_sub [1, 2, 3, 4, 0] rfl (k0 _ rfl)
      · refine rn_ine_t (pc := 49) (tgt := 55) dX12_ranked_49 (by decide) c13 ?_
        refine rn_aload_n (pc := 55) 0 dX12_ranked_55 rfl rfl ?_
        obtain ⟨v15, hv15, h8⟩ := bnd_some h6
        refine rn_getR (pc := 56) (k := 47) okX12 (by decide) tw_1040 rfl dX12_ranked_56 hv15 ?_
        refine rn_iload (pc := 59) 4 dX12_ranked_59 rfl ?_
        obtain ⟨v16, hv16, h9⟩ := bnd_some h8
        refine rn_iald (pc := 61) dX12_ranked_61 hv16 ?_
        refine rn_i2l (pc := 62) dX12_ranked_62 ?_
        refine rn_aload_n (pc := 63) 0 dX12_ranked_63 rfl rfl ?_
        obtain ⟨v17, hv17, h10⟩ := bnd_some h9
        refine rn_getR (pc := 64) (k := 48) okX12 (by decide) tw_1041 rfl dX12_ranked_64 hv17 ?_
        refine rn_iload_n (pc := 67) 2 dX12_ranked_67 rfl rfl ?_
        obtain ⟨v18, hv18, h11⟩ := bnd_some h10
        refine rn_iald (pc := 68) dX12_ranked_68 hv18 ?_
        refine rn_i2l (pc := 69) dX12_ranked_69 ?_
        refine rn_lmul (pc := 70) dX12_ranked_70 ?_
        obtain ⟨x19, ex19, h12⟩ := nm_elim h11
        refine rn_topl ex19 ?_
        refine rn_lstore (pc := 71) (lv' := [(5, .long x19), (0, rv (some t0)), (1, .int i1), (2, .int i2), (3, .int s3), (4, .int s4)]) dX12_ranked_71 (by decide) rfl ?_
        refine rn_aload_n (pc := 73) 1 dX12_ranked_73 rfl rfl ?_
        obtain ⟨v20, hv20, h13⟩ := bnd_some h12
        refine rn_getR (pc := 74) (k := 47) okX12 (by decide) tw_1040 rfl dX12_ranked_74 hv20 ?_
        refine rn_iload_n (pc := 77) 3 dX12_ranked_77 rfl rfl ?_
        obtain ⟨v21, hv21, h14⟩ := bnd_some h13
        refine rn_iald (pc := 78) dX12_ranked_78 hv21 ?_
        refine rn_i2l (pc := 79) dX12_ranked_79 ?_
        refine rn_aload_n (pc := 80) 1 dX12_ranked_80 rfl rfl ?_
        obtain ⟨v22, hv22, h15⟩ := bnd_some h14
        refine rn_getR (pc := 81) (k := 48) okX12 (by decide) tw_1041 rfl dX12_ranked_81 hv22 ?_
        refine rn_iload (pc := 84) 5 dX12_ranked_84 rfl ?_
        obtain ⟨v23, hv23, h16⟩ := bnd_some h15
        refine rn_iald (pc := 86) dX12_ranked_86 hv23 ?_
        refine rn_i2l (pc := 87) dX12_ranked_87 ?_
        refine rn_lmul (pc := 88) dX12_ranked_88 ?_
        obtain ⟨x24, ex24, h17⟩ := nm_elim h16
        refine rn_topl ex24 ?_
        refine rn_lstore (pc := 89) (lv' := [(7, .long x24), (5, .long x19), (0, rv (some t0)), (1, .int i1), (2, .int i2), (3, .int s3), (4, .int s4)]) dX12_ranked_89 (by decide) rfl ?_
        refine rn_iload_n (pc := 91) 5 dX12_ranked_91 rfl rfl ?_
        refine rn_lload (pc := 92) 1 dX12_ranked_92 rfl ?_
        refine rn_lload (pc := 94) 0 dX12_ranked_94 rfl ?_
        refine rn_lcmp (pc := 96) dX12_ranked_96 ?_
        rcases if_elim h17 with ⟨c25, h18⟩ | ⟨c25, h18⟩
        · refine rn_zlt_t (pc := 97) (tgt := 114) dX12_ranked_97 (by decide) c25 ?_
          refine rn_iconst (pc := 114) (v := 1) dX12_ranked_114 (by decide) ?_
          refine rn_goto (pc := 115) (tgt := 119) dX12_ranked_115 (by decide) ?_
          refine rn_iadd (pc := 119) dX12_ranked_119 ?_
          obtain ⟨x26, ex26, h19⟩ := nm_elim h18
          refine rn_topi ex26 ?_
          refine rn_istore_n (pc := 120) (lv' := [(3, .int x26), (7, .long x24), (5, .long x19), (0, rv (some t0)), (1, .int i1), (2, .int i2), (4, .int s4)]) dX12_ranked_120 rfl (by decide) rfl ?_
          obtain ⟨x27, ex27, h20⟩ := nm_elim h19
          refine rn_iinc (pc := 121) (v := x27) (lv' := [(4, .int x27), (3, .int x26), (7, .long x24), (5, .long x19), (0, rv (some t0)), (1, .int i1), (2, .int i2)]) 6 dX12_ranked_121 rfl (by rw [ex27]; rfl) (by decide) rfl ?_
          refine rn_goto (pc := 124) (tgt := 29) dX12_ranked_124 (by decide) ?_
          cases h20
          exact rn_sub [4, 5, 6, 1, 0] rfl (k0 _ rfl)
        · refine rn_zlt_f (pc := 97) 114 dX12_ranked_97 (by decide) c25 ?_
          refine rn_lload (pc := 100) 1 dX12_ranked_100 rfl ?_
          refine rn_lload (pc := 102) 0 dX12_ranked_102 rfl ?_
          refine rn_lcmp (pc := 104) dX12_ranked_104 ?_
          rcases if_elim h18 with ⟨c28, h21⟩ | ⟨c28, h21⟩
          · refine rn_zne_f (pc := 105) 118 dX12_ranked_105 (by decide) c28 ?_
            refine rn_iload (pc := 108) 6 dX12_ranked_108 rfl ?_
            refine rn_iload_n (pc := 110) 4 dX12_ranked_110 rfl rfl ?_
            rcases if_elim h21 with ⟨c29, h22⟩ | ⟨c29, h22⟩
            · refine rn_ige_f (pc := 111) 118 dX12_ranked_111 (by decide) c29 ?_
              refine rn_iconst (pc := 114) (v := 1) dX12_ranked_114 (by decide) ?_
              refine rn_goto (pc := 115) (tgt := 119) dX12_ranked_115 (by decide) ?_
              refine rn_iadd (pc := 119) dX12_ranked_119 ?_
              obtain ⟨x30, ex30, h23⟩ := nm_elim h22
              refine rn_topi ex30 ?_
              refine rn_istore_n (pc := 120) (lv' := [(3, .int x30), (7, .long x24), (5, .long x19), (0, rv (some t0)), (1, .int i1), (2, .int i2), (4, .int s4)]) dX12_ranked_120 rfl (by decide) rfl ?_
              obtain ⟨x31, ex31, h24⟩ := nm_elim h23
              refine rn_iinc (pc := 121) (v := x31) (lv' := [(4, .int x31), (3, .int x30), (7, .long x24), (5, .long x19), (0, rv (some t0)), (1, .int i1), (2, .int i2)]) 6 dX12_ranked_121 rfl (by rw [ex31]; rfl) (by decide) rfl ?_
              refine rn_goto (pc := 124) (tgt := 29) dX12_ranked_124 (by decide) ?_
              cases h24
              exact rn_sub [4, 5, 6, 1, 0] rfl (k0 _ rfl)
            · refine rn_ige_t (pc := 111) (tgt := 118) dX12_ranked_111 (by decide) c29 ?_
              refine rn_iconst (pc := 118) (v := 0) dX12_ranked_118 (by decide) ?_
              refine rn_iadd (pc := 119) dX12_ranked_119 ?_
              obtain ⟨x32, ex32, h25⟩ := nm_elim h22
              refine rn_topi ex32 ?_
              refine rn_istore_n (pc := 120) (lv' := [(3, .int x32), (7, .long x24), (5, .long x19), (0, rv (some t0)), (1, .int i1), (2, .int i2), (4, .int s4)]) dX12_ranked_120 rfl (by decide) rfl ?_
              obtain ⟨x33, ex33, h26⟩ := nm_elim h25
              refine rn_iinc (pc := 121) (v := x33) (lv' := [(4, .int x33), (3, .int x32), (7, .long x24), (5, .long x19), (0, rv (some t0)), (1, .int i1), (2, .int i2)]) 6 dX12_ranked_121 rfl (by rw [ex33]; rfl) (by decide) rfl ?_
              refine rn_goto (pc := 124) (tgt := 29) dX12_ranked_124 (by decide) ?_
              cases h26
              exact rn_sub [4, 5, 6, 1, 0] rfl (k0 _ rfl)
          · refine rn_zne_t (pc := 105) (tgt := 118) dX12_ranked_105 (by decide) c28 ?_
            refine rn_iconst (pc := 118) (v := 0) dX12_ranked_118 (by decide) ?_
            refine rn_iadd (pc := 119) dX12_ranked_119 ?_
            obtain ⟨x34, ex34, h27⟩ := nm_elim h21
            refine rn_topi ex34 ?_
            refine rn_istore_n (pc := 120) (lv' := [(3, .int x34), (7, .long x24), (5, .long x19), (0, rv (some t0)), (1, .int i1), (2, .int i2), (4, .int s4)]) dX12_ranked_120 rfl (by decide) rfl ?_
            obtain ⟨x35, ex35, h28⟩ := nm_elim h27
            refine rn_iinc (pc := 121) (v := x35) (lv' := [(4, .int x35), (3, .int x34), (7, .long x24), (5, .long x19), (0, rv (some t0)), (1, .int i1), (2, .int i2)]) 6 dX12_ranked_121 rfl (by rw [ex35]; rfl) (by decide) rfl ?_
            refine rn_goto (pc := 124) (tgt := 29) dX12_ranked_124 (by decide) ?_
            cases h28
            exact rn_sub [4, 5, 6, 1, 0] rfl (k0 _ rfl)
  · refine rn_ige_t (pc := 33) (tgt := 127) dX12_ranked_33 (by decide) c8 ?_
    cases h1
    exact rn_sub [0, 1, 2, 3] rfl (k1 _ rfl)
theorem lX12_ranked_29 {l : Launch} {G : Gt} {d : Nat} {t0 : Nat} {i1 : Int32} {i2 : Int32} {u : Mem} {N : Nat} {s0 : Int32 × Int32} {r : Int32} {o : Outcome} {u' : Mem} (h : lp (fun s : Int32 × Int32 => bX12_ranked_29 t0 i1 i2 u s.1 s.2) N s0 = some r) (k1 : Rn l G iX12_ranked (d + 6) 127 [(0, rv (some t0)), (1, .int i1), (2, .int i2), (3, .int r)] [] u o u') : Rn l G iX12_ranked (d + 6) 29 [(0, rv (some t0)), (1, .int i1), (2, .int i2), (3, .int s0.1), (4, .int s0.2)] [] u o u' :=
  lp_run (P := fun s : Int32 × Int32 => Rn l G iX12_ranked (d + 6) 29 [(0, rv (some t0)), (1, .int i1), (2, .int i2), (3, .int s.1), (4, .int s.2)] [] u o u') (E := fun r => Rn l G iX12_ranked (d + 6) 127 [(0, rv (some t0)), (1, .int i1), (2, .int i2), (3, .int r)] [] u o u') (fun s y hy k0 kE => btX12_ranked_29 hy (fun s' e => k0 s' e) (fun r e => kE r e)) N s0 r h k1
theorem btX12_ranked_6 {l : Launch} {G : Gt} {d : Nat} {t0 : Nat} {i1 : Int32} {u : Mem} {s2 : Int32} {y : (Int32) ⊕ ((Unit) ⊕ (Int32))} {o : Outcome} {u' : Mem} (h : bX12_ranked_6 t0 i1 u s2 = some y) (k0 : ∀ s' : Int32, y = .inl s' → Rn l G iX12_ranked (d + 6) 6 [(0, rv (some t0)), (1, .int i1), (2, .int s')] [] u o u') (k1 : ∀ r : Unit, y = .inr (.inl r) → Rn l G iX12_ranked (d + 6) 140 [] [] u o u') (k2 : ∀ r : Int32, y = .inr (.inr (r)) → Rn l G iX12_ranked (d + 6) 132 [(2, .int r)] [] u o u') : Rn l G iX12_ranked (d + 6) 6 [(0, rv (some t0)), (1, .int i1), (2, .int s2)] [] u o u' := by
  unfold bX12_ranked_6 at h
  refine rn_iload_n (pc := 6) 2 dX12_ranked_6 rfl rfl ?_
  refine rn_bipush (pc := 7) (v := 20) dX12_ranked_7 (by decide) ?_
  rcases if_elim h with ⟨c3, h1⟩ | ⟨c3, h1⟩
  · refine rn_ige_f (pc := 9) 140 dX12_ranked_9 (by decide) c3 ?_
    refine rn_aload_n (pc := 12) 0 dX12_ranked_12 rfl rfl ?_
    obtain ⟨v4, hv4, h2⟩ := bnd_some h1
    refine rn_getR (pc := 13) (k := 48) okX12 (by decide) tw_1041 rfl dX12_ranked_13 hv4 ?_
    refine rn_iload_n (pc := 16) 2 dX12_ranked_16 rfl rfl ?_
    obtain ⟨v5, hv5, h3⟩ := bnd_some h2
    refine rn_iald (pc := 17) dX12_ranked_17 hv5 ?_
    rcases if_elim h3 with ⟨c6, h4⟩ | ⟨c6, h4⟩
    · refine rn_zne_f (pc := 18) 24 dX12_ranked_18 (by decide) c6 ?_
      refine rn_goto (pc := 21) (tgt := 134) dX12_ranked_21 (by decide) ?_
      obtain ⟨x7, ex7, h5⟩ := nm_elim h4
      refine rn_iinc (pc := 134) (v := x7) (lv' := [(2, .int x7), (0, rv (some t0)), (1, .int i1)]) 2 dX12_ranked_134 rfl (by rw [ex7]; rfl) (by decide) rfl ?_
      refine rn_goto (pc := 137) (tgt := 6) dX12_ranked_137 (by decide) ?_
      cases h5
      exact rn_sub [1, 2, 0] rfl (k0 _ rfl)
    · refine rn_zne_t (pc := 18) (tgt := 24) dX12_ranked_18 (by decide) c6 ?_
      refine rn_iconst (pc := 24) (v := 0) dX12_ranked_24 (by decide) ?_
      refine rn_istore_n (pc := 25) (lv' := [(3, .int (0 : Int32)), (0, rv (some t0)), (1, .int i1), (2, .int s2)]) dX12_ranked_25 rfl (by decide) rfl ?_
      refine rn_iconst (pc := 26) (v := 0) dX12_ranked_26 (by decide) ?_
      refine rn_istore (pc := 27) (lv' := [(4, .int (0 : Int32)), (3, .int (0 : Int32)), (0, rv (some t0)), (1, .int i1), (2, .int s2)]) dX12_ranked_27 (by decide) rfl ?_
      obtain ⟨r36, hr36, h6⟩ := bnd_some h4
      refine rn_sub [2, 3, 4, 1, 0] rfl (lX12_ranked_29 hr36 ?_)
      refine rn_iload_n (pc := 127) 3 dX12_ranked_127 rfl rfl ?_
      refine rn_iload_n (pc := 128) 1 dX12_ranked_128 rfl rfl ?_
      rcases if_elim h6 with ⟨c37, h7⟩ | ⟨c37, h7⟩
      · refine rn_ine_f (pc := 129) 134 dX12_ranked_129 (by decide) c37 ?_
        cases h7
        exact rn_sub [2] rfl (k2 _ rfl)
      · refine rn_ine_t (pc := 129) (tgt := 134) dX12_ranked_129 (by decide) c37 ?_
        obtain ⟨x38, ex38, h8⟩ := nm_elim h7
        refine rn_iinc (pc := 134) (v := x38) (lv' := [(2, .int x38), (0, rv (some t0)), (1, .int i1), (3, .int r36)]) 2 dX12_ranked_134 rfl (by rw [ex38]; rfl) (by decide) rfl ?_
        refine rn_goto (pc := 137) (tgt := 6) dX12_ranked_137 (by decide) ?_
        cases h8
        exact rn_sub [1, 2, 0] rfl (k0 _ rfl)
  · refine rn_ige_t (pc := 9) (tgt := 140) dX12_ranked_9 (by decide) c3 ?_
    cases h1
    exact rn_sub [] rfl (k1 _ rfl)
theorem lX12_ranked_6 {l : Launch} {G : Gt} {d : Nat} {t0 : Nat} {i1 : Int32} {u : Mem} {N : Nat} {s0 : Int32} {r : (Unit) ⊕ (Int32)} {o : Outcome} {u' : Mem} (h : lp (fun s : Int32 => bX12_ranked_6 t0 i1 u s) N s0 = some r) (k1 : ∀ r' : Unit, r = .inl r' → Rn l G iX12_ranked (d + 6) 140 [] [] u o u') (k2 : ∀ r' : Int32, r = .inr (r') → Rn l G iX12_ranked (d + 6) 132 [(2, .int r')] [] u o u') : Rn l G iX12_ranked (d + 6) 6 [(0, rv (some t0)), (1, .int i1), (2, .int s0)] [] u o u' :=
  lp_run (P := fun s : Int32 => Rn l G iX12_ranked (d + 6) 6 [(0, rv (some t0)), (1, .int i1), (2, .int s)] [] u o u') (E := fun r => (∀ r' : Unit, r = .inl r' → Rn l G iX12_ranked (d + 6) 140 [] [] u o u') ∧ (∀ r' : Int32, r = .inr (r') → Rn l G iX12_ranked (d + 6) 132 [(2, .int r')] [] u o u')) (fun s y hy k0 kE => btX12_ranked_6 hy (fun s' e => k0 s' e) (fun r e => (kE _ e).1 r rfl) (fun r e => (kE _ e).2 r rfl)) N s0 r h ⟨k1, k2⟩
theorem tX12_ranked {l : Launch} {G : Gt} {d : Nat} {t0 : Nat} {p1 : Int32} {u : Mem} {y : Int32 × Mem} (h : fX12_ranked t0 p1 u = some y) : Rn l G iX12_ranked (d + 6) 0 [(0, rv (some t0)), (1, .int p1)] [] u (.returned (some (.int y.1))) y.2 := by
  unfold fX12_ranked at h
  refine rn_aload_n (pc := 0) 0 dX12_ranked_0 rfl rfl ?_
  obtain ⟨b1, hb1, h1⟩ := bnd_some h
  obtain ⟨qb1, kb1⟩ := chk_elim hb1
  cases qb1
  obtain ⟨u2, hu2, h2⟩ := bnd_some h1
  refine rn_callV (pc := 1) (n := 0) (As := []) (rest := []) (eX12_findMeans (d := d + 0) hu2) (by omega) okX12 kb1 tw_1312 tw_79 tw_1310 tw_1311 tw_54 (by decide +kernel) rfl (Nat.le_of_ble_eq_true rfl) dX12_ranked_1 rfl ?_
  refine rn_iconst (pc := 4) (v := 0) dX12_ranked_4 (by decide) ?_
  refine rn_istore_n (pc := 5) (lv' := [(2, .int (0 : Int32)), (0, rv (some t0)), (1, .int p1)]) dX12_ranked_5 rfl (by decide) rfl ?_
  obtain ⟨r39, hr39, h3⟩ := bnd_some h2
  rcases r39 with r40 | r41
  · refine rn_sub [1, 2, 0] rfl (lX12_ranked_6 hr39 (fun _ hq => ?_) (fun _ hq => by cases hq))
    cases hq
    have h4 := sumE_l h3
    refine rn_iconst (pc := 140) (v := -1) dX12_ranked_140 (by decide) ?_
    cases h4
    exact rn_iret (pc := 141) rfl dX12_ranked_141
  · refine rn_sub [1, 2, 0] rfl (lX12_ranked_6 hr39 (fun _ hq => by cases hq) (fun _ hq => ?_))
    cases hq
    have h5 := sumE_r h3
    refine rn_iload_n (pc := 132) 0 dX12_ranked_132 rfl rfl ?_
    cases h5
    exact rn_iret (pc := 133) rfl dX12_ranked_133
theorem eX12_ranked {l : Launch} {G : Gt} {d : Nat} {t0 : Nat} {p1 : Int32} {u : Mem} {y : Int32 × Mem} (h : fX12_ranked t0 p1 u = some y) : Ex l G iX12_ranked (d + 6) [rv (some t0), .int p1] u (.returned (some (.int y.1))) y.2 := Ex.of (by decide +kernel) (by decide) (Nat.le_of_ble_eq_true rfl) rfl (tX12_ranked h)
