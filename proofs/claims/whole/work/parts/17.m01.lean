abbrev iX12_prepare : MI := (yX12_prepare, cX12_prepare, 4, (Option.none : Option FieldType))
def bX12_prepare_2 (t0 : Nat) (s1 : Int32) (u : Mem) : Option ((Int32 × Mem) ⊕ (Mem)) :=
  if s1 < (400 : Int32) then
    (gfR u (some t0) 12 43).bind fun v2 =>
    (asI u v2 22 s1 (((0 : Int32) &&& 1))).bind fun u3 =>
    (gfR u3 (some t0) 12 40).bind fun v4 =>
    (asI u3 v4 20 s1 (0 : Int32)).bind fun u5 =>
    (gfR u5 (some t0) 12 41).bind fun v6 =>
    (asI u5 v6 20 s1 (0 : Int32)).bind fun u7 =>
    (gfR u7 (some t0) 12 42).bind fun v8 =>
    (asI u7 v8 20 s1 (0 : Int32)).bind fun u9 =>
    nm (s1 + 1 : Int32) fun x10 =>
    some (.inl (x10, u9))
  else
    some (.inr u)
def bX12_prepare_45 (t0 : Nat) (s1 : Int32) (u : Mem) : Option ((Int32 × Mem) ⊕ (Mem)) :=
  if s1 < (24000 : Int32) then
    (gfR u (some t0) 12 39).bind fun v13 =>
    (asI u v13 20 s1 (-1 : Int32)).bind fun u14 =>
    nm (s1 + 1 : Int32) fun x15 =>
    some (.inl (x15, u14))
  else
    some (.inr u)
def bX12_prepare_105 (t0 : Nat) (i1 : Int32) (i2 : Int32) (s3 : Int32) (u : Mem) : Option ((Int32 × Mem) ⊕ (Mem)) :=
  (gfR u (some t0) 12 29).bind fun v28 =>
  (gfR u (some t0) 12 33).bind fun v29 =>
  (alI u v29 20 i1).bind fun v30 =>
  (alI u v28 20 v30).bind fun v31 =>
  if v31 < s3 then
    some (.inr u)
  else
    (gfR u (some t0) 12 39).bind fun v33 =>
    (gfR u (some t0) 12 28).bind fun v34 =>
    (gfR u (some t0) 12 33).bind fun v35 =>
    (alI u v35 20 i1).bind fun v36 =>
    (alI u v34 20 v36).bind fun v37 =>
    (gfR u (some t0) 12 35).bind fun v38 =>
    (alI u v38 20 i1).bind fun v39 =>
    (asI u v33 20 ((((60 : Int32) * i2) + s3) - v37) v39).bind fun u40 =>
    nm (s3 + 1 : Int32) fun x41 =>
    some (.inl (x41, u40))
def bX12_prepare_67 (t0 : Nat) (s1 : Int32) (u : Mem) : Option ((Int32 × Mem) ⊕ (Mem)) :=
  (gfI u (some t0) 12 26).bind fun v17 =>
  if s1 < v17 then
    (gfR u (some t0) 12 32).bind fun v19 =>
    (alI u v19 20 s1).bind fun v20 =>
    (gfR u (some t0) 12 33).bind fun v21 =>
    (alI u v21 20 s1).bind fun v22 =>
    (fX12_pair v20 v22 u).bind fun v23 =>
    (gfR u (some t0) 12 43).bind fun v24 =>
    (asI u v24 22 v23 (((1 : Int32) &&& 1))).bind fun u25 =>
    (gfR u25 (some t0) 12 34).bind fun v26 =>
    (alI u25 v26 20 s1).bind fun v27 =>
    (lp (fun s : Int32 × Mem => bX12_prepare_105 t0 s1 v23 s.1 s.2) FU (v27, u25)).bind fun r42 =>
    nm (s1 + 1 : Int32) fun x43 =>
    some (.inl (x43, r42))
  else
    some (.inr u)
def bX12_prepare_171 (t0 : Nat) (i1 : Int32) (s2 : Int32) (u : Mem) : Option ((Int32 × Mem) ⊕ (Mem)) :=
  (gfI u (some t0) 12 25).bind fun v46 =>
  if s2 < v46 then
    (chk u (some t0) 12).bind fun b48 =>
    (fX12_isKnown t0 s2 u).bind fun v49 =>
    if v49 = 0 then
      nm (s2 + 1 : Int32) fun x51 =>
      some (.inl (x51, u))
    else
      (chk u (some t0) 12).bind fun b52 =>
      (fX12_sumRows t0 i1 s2 u).bind fun u53 =>
      nm (s2 + 1 : Int32) fun x54 =>
      some (.inl (x54, u53))
  else
    some (.inr u)
def bX12_prepare_163 (t0 : Nat) (s1 : Int32) (u : Mem) : Option ((Int32 × Mem) ⊕ (Mem)) :=
  if s1 < (20 : Int32) then
    (lp (fun s : Int32 × Mem => bX12_prepare_171 t0 s1 s.1 s.2) FU ((0 : Int32), u)).bind fun r55 =>
    nm (s1 + 1 : Int32) fun x56 =>
    some (.inl (x56, r55))
  else
    some (.inr u)
def fX12_prepare (t0 : Nat) (u : Mem) : Option (Mem) :=
  (lp (fun s : Int32 × Mem => bX12_prepare_2 t0 s.1 s.2) FU ((0 : Int32), u)).bind fun r11 =>
  (lp (fun s : Int32 × Mem => bX12_prepare_45 t0 s.1 s.2) FU ((0 : Int32), r11)).bind fun r16 =>
  (lp (fun s : Int32 × Mem => bX12_prepare_67 t0 s.1 s.2) FU ((0 : Int32), r16)).bind fun r44 =>
  (lp (fun s : Int32 × Mem => bX12_prepare_163 t0 s.1 s.2) FU ((0 : Int32), r44)).bind fun r57 =>
  some r57
abbrev iX12_counts : MI := (yX12_counts, cX12_counts, 3, (some .boolean))
def fX12_counts (t0 : Nat) (p1 : Int32) (p2 : Int32) (u : Mem) : Option (Int32) :=
  (chk u (some t0) 12).bind fun b1 =>
  (fX12_isKnown t0 p2 u).bind fun v2 =>
  if v2 = 0 then
    some (0 : Int32)
  else
    (gfR u (some t0) 12 40).bind fun v4 =>
    (fX12_pair p1 p2 u).bind fun v5 =>
    (alI u v4 20 v5).bind fun v6 =>
    (gfI u (some t0) 12 4).bind fun v7 =>
    if v6 < v7 then
      some (0 : Int32)
    else
      some (1 : Int32)
abbrev iX12_findCopies : MI := (yX12_findCopies, cX12_findCopies, 5, (Option.none : Option FieldType))
def bX12_findCopies_23 (t0 : Nat) (i1 : Int32) (i2 : Int32) (u : Mem) (s3 : Int32) (s4 : Int32) : Option ((Int32 × Int32) ⊕ (Int32)) :=
  (gfI u (some t0) 12 26).bind fun v4 =>
  if s4 < v4 then
    (gfR u (some t0) 12 32).bind fun v6 =>
    (alI u v6 20 i1).bind fun v7 =>
    if i2 = v7 then
      some (.inr s3)
    else
      (gfR u (some t0) 12 32).bind fun v9 =>
      (alI u v9 20 s4).bind fun v10 =>
      if v10 = i2 then
        (gfR u (some t0) 12 33).bind fun v12 =>
        (alI u v12 20 s4).bind fun v13 =>
        (gfR u (some t0) 12 33).bind fun v14 =>
        (alI u v14 20 i1).bind fun v15 =>
        if v13 = v15 then
          (gfR u (some t0) 12 34).bind fun v17 =>
          (alI u v17 20 s4).bind fun v18 =>
          (gfR u (some t0) 12 34).bind fun v19 =>
          (alI u v19 20 i1).bind fun v20 =>
          if v18 < v20 then
            if s3 = (-1 : Int32) then
              nm (s4 + 1 : Int32) fun x23 =>
              some (.inl (s4, x23))
            else
              (gfR u (some t0) 12 34).bind fun v24 =>
              (alI u v24 20 s4).bind fun v25 =>
              (gfR u (some t0) 12 34).bind fun v26 =>
              (alI u v26 20 s3).bind fun v27 =>
              if v25 < v27 then
                nm (s4 + 1 : Int32) fun x29 =>
                some (.inl (s3, x29))
              else
                nm (s4 + 1 : Int32) fun x30 =>
                some (.inl (s4, x30))
          else
            nm (s4 + 1 : Int32) fun x31 =>
            some (.inl (s3, x31))
        else
          nm (s4 + 1 : Int32) fun x32 =>
          some (.inl (s3, x32))
      else
        nm (s4 + 1 : Int32) fun x33 =>
        some (.inl (s3, x33))
  else
    some (.inr s3)
def jX12_findCopies_12_115 (t0 : Nat) (i1 : Int32) (p2 : Int32) (p3 : Int32) (u : Mem) : Option ((Int32 × Mem) ⊕ (Mem)) :=
  (gfR u (some t0) 12 44).bind fun v35 =>
  if p3 = (-1 : Int32) then
    (asI u v35 22 (((20 : Int32) * i1) + p2) (((0 : Int32) &&& 1))).bind fun u37 =>
    nm (p2 + 1 : Int32) fun x38 =>
    some (.inl (x38, u37))
  else
    (gfR u (some t0) 12 35).bind fun v39 =>
    (alI u v39 20 p3).bind fun v40 =>
    (gfR u (some t0) 12 35).bind fun v41 =>
    (alI u v41 20 i1).bind fun v42 =>
    if v40 = v42 then
      (gfR u (some t0) 12 34).bind fun v44 =>
      (alI u v44 20 i1).bind fun v45 =>
      (gfR u (some t0) 12 34).bind fun v46 =>
      (alI u v46 20 p3).bind fun v47 =>
      (gfI u (some t0) 12 2).bind fun v48 =>
      if v48 < (v45 - v47) then
        (asI u v35 22 (((20 : Int32) * i1) + p2) (((0 : Int32) &&& 1))).bind fun u50 =>
        nm (p2 + 1 : Int32) fun x51 =>
        some (.inl (x51, u50))
      else
        (asI u v35 22 (((20 : Int32) * i1) + p2) (((1 : Int32) &&& 1))).bind fun u52 =>
        nm (p2 + 1 : Int32) fun x53 =>
        some (.inl (x53, u52))
    else
      (asI u v35 22 (((20 : Int32) * i1) + p2) (((0 : Int32) &&& 1))).bind fun u54 =>
      nm (p2 + 1 : Int32) fun x55 =>
      some (.inl (x55, u54))
def bX12_findCopies_12 (t0 : Nat) (i1 : Int32) (s2 : Int32) (u : Mem) : Option ((Int32 × Mem) ⊕ (Mem)) :=
  if s2 < (20 : Int32) then
    (lp (fun s : Int32 × Int32 => bX12_findCopies_23 t0 i1 s2 u s.1 s.2) FU ((-1 : Int32), (0 : Int32))).bind fun r34 =>
    jX12_findCopies_12_115 t0 i1 s2 r34 u
  else
    some (.inr u)
def bX12_findCopies_2 (t0 : Nat) (s1 : Int32) (u : Mem) : Option ((Int32 × Mem) ⊕ (Mem)) :=
  (gfI u (some t0) 12 26).bind fun v1 =>
  if s1 < v1 then
    (lp (fun s : Int32 × Mem => bX12_findCopies_12 t0 s1 s.1 s.2) FU ((0 : Int32), u)).bind fun r56 =>
    nm (s1 + 1 : Int32) fun x57 =>
    some (.inl (x57, r56))
  else
    some (.inr u)
def fX12_findCopies (t0 : Nat) (u : Mem) : Option (Mem) :=
  (lp (fun s : Int32 × Mem => bX12_findCopies_2 t0 s.1 s.2) FU ((0 : Int32), u)).bind fun r58 =>
  some r58
abbrev iX12_copiesOf : MI := (yX12_copiesOf, cX12_copiesOf, 6, (some .int))
def bX12_copiesOf_6 (t0 : Nat) (i1 : Int32) (i2 : Int32) (i3 : Int32) (u : Mem) (s4 : Int32) (s5 : Int32) : Option ((Int32 × Int32) ⊕ (Int32)) :=
  (gfI u (some t0) 12 26).bind fun v1 =>
  if s5 < v1 then
    (gfR u (some t0) 12 32).bind fun v3 =>
    (alI u v3 20 s5).bind fun v4 =>
    if v4 = i1 then
      (gfR u (some t0) 12 34).bind fun v6 =>
      (alI u v6 20 s5).bind fun v7 =>
      if i3 < v7 then
        nm (s4 + (0 : Int32) : Int32) fun x9 =>
        nm (s5 + 1 : Int32) fun x10 =>
        some (.inl (x9, x10))
      else
        (gfR u (some t0) 12 44).bind fun v11 =>
        (alI u v11 22 (((20 : Int32) * s5) + i2)).bind fun v12 =>
        if v12 = 0 then
          nm (s4 + (0 : Int32) : Int32) fun x14 =>
          nm (s5 + 1 : Int32) fun x15 =>
          some (.inl (x14, x15))
        else
          nm (s4 + (1 : Int32) : Int32) fun x16 =>
          nm (s5 + 1 : Int32) fun x17 =>
          some (.inl (x16, x17))
    else
      nm (s4 + (0 : Int32) : Int32) fun x18 =>
      nm (s5 + 1 : Int32) fun x19 =>
      some (.inl (x18, x19))
  else
    some (.inr s4)
def fX12_copiesOf (t0 : Nat) (p1 : Int32) (p2 : Int32) (p3 : Int32) (u : Mem) : Option (Int32) :=
  (lp (fun s : Int32 × Int32 => bX12_copiesOf_6 t0 p1 p2 p3 u s.1 s.2) FU ((0 : Int32), (0 : Int32))).bind fun r20 =>
  some r20
abbrev iX12_rows : MI := (yX12_rows, cX12_rows, 4, (some .int))
def fX12_rows (t0 : Nat) (p1 : Int32) (p2 : Int32) (p3 : Int32) (u : Mem) : Option (Int32 × Mem) :=
  (fX12_isGuesser p1 u).bind fun v1 =>
  if v1 = 0 then
    some ((-2 : Int32), u)
  else
    (chk u (some t0) 12).bind fun b3 =>
    (fX12_isQuestion t0 p2 u).bind fun v4 =>
    if v4 = 0 then
      some ((-2 : Int32), u)
    else
      (fX12_in (Int32.toInt64 p3) (0 : Int64) (1 : Int64) u).bind fun v6 =>
      if v6 = 0 then
        some ((-2 : Int32), u)
      else
        (chk u (some t0) 12).bind fun b8 =>
        (fX12_prepare t0 u).bind fun u9 =>
        if p3 = 0 then
          (gfR u9 (some t0) 12 40).bind fun v11 =>
          (fX12_pair p1 p2 u9).bind fun v12 =>
          (alI u9 v11 20 v12).bind fun v13 =>
          some (v13, u9)
        else
          (gfR u9 (some t0) 12 41).bind fun v14 =>
          (fX12_pair p1 p2 u9).bind fun v15 =>
          (alI u9 v14 20 v15).bind fun v16 =>
          some (v16, u9)
abbrev iX12_findMean : MI := (yX12_findMean, cX12_findMean, 3, (Option.none : Option FieldType))
def bX12_findMean_12 (t0 : Nat) (i1 : Int32) (s2 : Int32) (u : Mem) : Option ((Int32 × Mem) ⊕ (Mem)) :=
  (gfI u (some t0) 12 25).bind fun v3 =>
  if s2 < v3 then
    (chk u (some t0) 12).bind fun b5 =>
    (fX12_counts t0 i1 s2 u).bind fun v6 =>
    if v6 = 0 then
      nm (s2 + 1 : Int32) fun x8 =>
      some (.inl (x8, u))
    else
      (gfI u (some t0) 12 45).bind fun v9 =>
      (gfR u (some t0) 12 41).bind fun v10 =>
      (fX12_pair i1 s2 u).bind fun v11 =>
      (alI u v10 20 v11).bind fun v12 =>
      (pfI u (some t0) 12 45 (v9 + v12)).bind fun u13 =>
      (gfI u13 (some t0) 12 46).bind fun v14 =>
      (gfR u13 (some t0) 12 40).bind fun v15 =>
      (fX12_pair i1 s2 u13).bind fun v16 =>
      (alI u13 v15 20 v16).bind fun v17 =>
      (pfI u13 (some t0) 12 46 (v14 + v17)).bind fun u18 =>
      nm (s2 + 1 : Int32) fun x19 =>
      some (.inl (x19, u18))
  else
    some (.inr u)
def fX12_findMean (t0 : Nat) (p1 : Int32) (u : Mem) : Option (Mem) :=
  (pfI u (some t0) 12 45 (0 : Int32)).bind fun u1 =>
  (pfI u1 (some t0) 12 46 (0 : Int32)).bind fun u2 =>
  (lp (fun s : Int32 × Mem => bX12_findMean_12 t0 p1 s.1 s.2) FU ((0 : Int32), u2)).bind fun r20 =>
  some r20
abbrev iX12_common : MI := (yX12_common, cX12_common, 5, (some .int))
def bX12_common_4 (u : Mem) (s2 : Int32) (s3 : Int32) : Option ((Int32 × Int32) ⊕ (Int32)) :=
  if s3 = 0 then
    some (.inr s2)
  else
    (nz32 s3).bind fun z2 =>
    nm (s2 - s2 / s3 * s3 : Int32) fun x3 =>
    some (.inl (s3, x3))
def fX12_common (p0 : Int32) (p1 : Int32) (u : Mem) : Option (Int32) :=
  (lp (fun s : Int32 × Int32 => bX12_common_4 u s.1 s.2) FU (p0, p1)).bind fun r4 =>
  some r4
abbrev iX12_mean : MI := (yX12_mean, cX12_mean, 4, (some .int))
def fX12_mean (t0 : Nat) (p1 : Int32) (p2 : Int32) (u : Mem) : Option (Int32 × Mem) :=
  (fX12_isGuesser p1 u).bind fun v1 =>
  if v1 = 0 then
    some ((-2 : Int32), u)
  else
    (fX12_in (Int32.toInt64 p2) (0 : Int64) (1 : Int64) u).bind fun v3 =>
    if v3 = 0 then
      some ((-2 : Int32), u)
    else
      (chk u (some t0) 12).bind fun b5 =>
      (fX12_prepare t0 u).bind fun u6 =>
      (chk u6 (some t0) 12).bind fun b7 =>
      (fX12_findMean t0 p1 u6).bind fun u8 =>
      (gfI u8 (some t0) 12 46).bind fun v9 =>
      if v9 = 0 then
        some ((0 : Int32), u8)
      else
        (gfI u8 (some t0) 12 45).bind fun v11 =>
        (gfI u8 (some t0) 12 46).bind fun v12 =>
        (fX12_common v11 v12 u8).bind fun v13 =>
        if p2 = 0 then
          (gfI u8 (some t0) 12 45).bind fun v15 =>
          (nz32 v13).bind fun z16 =>
          some (v15 / v13, u8)
        else
          (gfI u8 (some t0) 12 46).bind fun v17 =>
          (nz32 v13).bind fun z18 =>
          some (v17 / v13, u8)
abbrev iX12_findMeans : MI := (yX12_findMeans, cX12_findMeans, 2, (Option.none : Option FieldType))
def bX12_findMeans_6 (t0 : Nat) (s1 : Int32) (u : Mem) : Option ((Int32 × Mem) ⊕ (Mem)) :=
  if s1 < (20 : Int32) then
    (chk u (some t0) 12).bind fun b4 =>
    (fX12_findMean t0 s1 u).bind fun u5 =>
    (gfR u5 (some t0) 12 47).bind fun v6 =>
    (gfI u5 (some t0) 12 45).bind fun v7 =>
    (asI u5 v6 20 s1 v7).bind fun u8 =>
    (gfR u8 (some t0) 12 48).bind fun v9 =>
    (gfI u8 (some t0) 12 46).bind fun v10 =>
    (asI u8 v9 20 s1 v10).bind fun u11 =>
    nm (s1 + 1 : Int32) fun x12 =>
    some (.inl (x12, u11))
  else
    some (.inr u)
def fX12_findMeans (t0 : Nat) (u : Mem) : Option (Mem) :=
  (chk u (some t0) 12).bind fun b1 =>
  (fX12_prepare t0 u).bind fun u2 =>
  (lp (fun s : Int32 × Mem => bX12_findMeans_6 t0 s.1 s.2) FU ((0 : Int32), u2)).bind fun r13 =>
  some r13
abbrev iX12_ranked : MI := (yX12_ranked, cX12_ranked, 9, (some .int))
def bX12_ranked_29 (t0 : Nat) (i1 : Int32) (i2 : Int32) (u : Mem) (s3 : Int32) (s4 : Int32) : Option ((Int32 × Int32) ⊕ (Int32)) :=
  if s4 < (20 : Int32) then
    (gfR u (some t0) 12 48).bind fun v9 =>
    (alI u v9 20 s4).bind fun v10 =>
    if v10 = 0 then
      nm (s4 + 1 : Int32) fun x12 =>
      some (.inl (s3, x12))
    else
      if s4 = i2 then
        nm (s4 + 1 : Int32) fun x14 =>
        some (.inl (s3, x14))
      else
        (gfR u (some t0) 12 47).bind fun v15 =>
        (alI u v15 20 s4).bind fun v16 =>
        (gfR u (some t0) 12 48).bind fun v17 =>
        (alI u v17 20 i2).bind fun v18 =>
        nm ((Int32.toInt64 v16) * (Int32.toInt64 v18) : Int64) fun x19 =>
        (gfR u (some t0) 12 47).bind fun v20 =>
        (alI u v20 20 i2).bind fun v21 =>
        (gfR u (some t0) 12 48).bind fun v22 =>
        (alI u v22 20 s4).bind fun v23 =>
        nm ((Int32.toInt64 v21) * (Int32.toInt64 v23) : Int64) fun x24 =>
        if (lg_cmp x19 x24) < 0 then
          nm (s3 + (1 : Int32) : Int32) fun x26 =>
          nm (s4 + 1 : Int32) fun x27 =>
          some (.inl (x26, x27))
        else
          if (lg_cmp x19 x24) = 0 then
            if s4 < i2 then
              nm (s3 + (1 : Int32) : Int32) fun x30 =>
              nm (s4 + 1 : Int32) fun x31 =>
              some (.inl (x30, x31))
            else
              nm (s3 + (0 : Int32) : Int32) fun x32 =>
              nm (s4 + 1 : Int32) fun x33 =>
              some (.inl (x32, x33))
          else
            nm (s3 + (0 : Int32) : Int32) fun x34 =>
            nm (s4 + 1 : Int32) fun x35 =>
            some (.inl (x34, x35))
  else
    some (.inr s3)
def bX12_ranked_6 (t0 : Nat) (i1 : Int32) (u : Mem) (s2 : Int32) : Option ((Int32) ⊕ ((Unit) ⊕ (Int32))) :=
  if s2 < (20 : Int32) then
    (gfR u (some t0) 12 48).bind fun v4 =>
    (alI u v4 20 s2).bind fun v5 =>
    if v5 = 0 then
      nm (s2 + 1 : Int32) fun x7 =>
      some (.inl x7)
    else
      (lp (fun s : Int32 × Int32 => bX12_ranked_29 t0 i1 s2 u s.1 s.2) FU ((0 : Int32), (0 : Int32))).bind fun r36 =>
      if r36 = i1 then
        some (.inr (.inr s2))
      else
        nm (s2 + 1 : Int32) fun x38 =>
        some (.inl x38)
  else
    some (.inr (.inl ()))
def fX12_ranked (t0 : Nat) (p1 : Int32) (u : Mem) : Option (Int32 × Mem) :=
  (chk u (some t0) 12).bind fun b1 =>
  (fX12_findMeans t0 u).bind fun u2 =>
  (lp (fun s : Int32 => bX12_ranked_6 t0 p1 u2 s) FU (0 : Int32)).bind fun r39 =>
  sumE r39 (fun r40 =>
    some ((-1 : Int32), u2)) (fun r41 =>
    some (r41, u2))
abbrev iX12_expects : MI := (yX12_expects, cX12_expects, 3, (some .int))
def fX12_expects (t0 : Nat) (p1 : Int32) (p2 : Int32) (u : Mem) : Option (Int32) :=
  (gfR u (some t0) 12 10).bind fun v1 =>
  (alI u v1 20 p2).bind fun v2 =>
  (gfR u (some t0) 12 11).bind fun v3 =>
  (alI u v3 20 p2).bind fun v4 =>
  some ((p1 * v2) + (((10 : Int32) - p1) * v4))
abbrev iX12_paysFor : MI := (yX12_paysFor, cX12_paysFor, 4, (some .int))
def bX12_paysFor_4 (t0 : Nat) (i1 : Int32) (u : Mem) (s2 : Int32) (s3 : Int32) : Option ((Int32 × Int32) ⊕ (Int32)) :=
  if s3 < (11 : Int32) then
    (chk u (some t0) 12).bind fun b2 =>
    (fX12_expects t0 i1 s3 u).bind fun v3 =>
    (chk u (some t0) 12).bind fun b4 =>
    (fX12_expects t0 i1 s2 u).bind fun v5 =>
    if v3 < v5 then
      nm (s3 + 1 : Int32) fun x7 =>
      some (.inl (s3, x7))
    else
      nm (s3 + 1 : Int32) fun x8 =>
      some (.inl (s2, x8))
  else
    some (.inr s2)
def fX12_paysFor (t0 : Nat) (p1 : Int32) (u : Mem) : Option (Int32) :=
  (lp (fun s : Int32 × Int32 => bX12_paysFor_4 t0 p1 u s.1 s.2) FU ((0 : Int32), (1 : Int32))).bind fun r9 =>
  some r9
abbrev iX12_pays : MI := (yX12_pays, cX12_pays, 2, (some .int))
def fX12_pays (t0 : Nat) (p1 : Int32) (u : Mem) : Option (Int32) :=
  (fX12_in (Int32.toInt64 p1) (0 : Int64) (10 : Int64) u).bind fun v1 =>
  if v1 = 0 then
    some (-2 : Int32)
  else
    (chk u (some t0) 12).bind fun b3 =>
    (fX12_paysFor t0 p1 u).bind fun v4 =>
    some v4
abbrev iX12_honest : MI := (yX12_honest, cX12_honest, 3, (some .int))
def bX12_honest_10 (t0 : Nat) (i1 : Int32) (u : Mem) (s2 : Int32) : Option ((Int32) ⊕ ((Unit) ⊕ (Unit))) :=
  if s2 < (11 : Int32) then
    if s2 = i1 then
      nm (s2 + 1 : Int32) fun x4 =>
      some (.inl x4)
    else
      (chk u (some t0) 12).bind fun b5 =>
      (fX12_expects t0 i1 s2 u).bind fun v6 =>
      (chk u (some t0) 12).bind fun b7 =>
      (fX12_expects t0 i1 i1 u).bind fun v8 =>
      if v8 < v6 then
        nm (s2 + 1 : Int32) fun x10 =>
        some (.inl x10)
      else
        some (.inr (.inr ()))
  else
    some (.inr (.inl ()))
def bX12_honest_2 (t0 : Nat) (u : Mem) (s1 : Int32) : Option ((Int32) ⊕ ((Unit) ⊕ (Int32))) :=
  if s1 < (11 : Int32) then
    (lp (fun s : Int32 => bX12_honest_10 t0 s1 u s) FU (0 : Int32)).bind fun r11 =>
    sumE r11 (fun r12 =>
      nm (s1 + 1 : Int32) fun x14 =>
      some (.inl x14)) (fun r13 =>
      some (.inr (.inr s1)))
  else
    some (.inr (.inl ()))
def fX12_honest (t0 : Nat) (u : Mem) : Option (Int32) :=
  (lp (fun s : Int32 => bX12_honest_2 t0 u s) FU (0 : Int32)).bind fun r15 =>
  sumE r15 (fun r16 =>
    some (-1 : Int32)) (fun r17 =>
    some r17)
abbrev iX12_copies : MI := (yX12_copies, cX12_copies, 3, (some .int))
def fX12_copies (t0 : Nat) (p1 : Int32) (p2 : Int32) (u : Mem) : Option (Int32 × Mem) :=
  (fX12_isGuesser p1 u).bind fun v1 =>
  if v1 = 0 then
    some ((-2 : Int32), u)
  else
    (fX12_isGuesser p2 u).bind fun v3 =>
    if v3 = 0 then
      some ((-2 : Int32), u)
    else
      if p1 = p2 then
        some ((-2 : Int32), u)
      else
        (gfI u (some t0) 12 2).bind fun v6 =>
        if v6 = (-1 : Int32) then
          some ((-4 : Int32), u)
        else
          (chk u (some t0) 12).bind fun b8 =>
          (fX12_findCopies t0 u).bind fun u9 =>
          (chk u9 (some t0) 12).bind fun b10 =>
          (fX12_copiesOf t0 p1 p2 (999 : Int32) u9).bind fun v11 =>
          some (v11, u9)
abbrev iX12_weightOn : MI := (yX12_weightOn, cX12_weightOn, 6, (some .int))
def bX12_weightOn_17 (t0 : Nat) (i1 : Int32) (i2 : Int32) (u : Mem) (s3 : Int32) (s4 : Int32) (s5 : Int32) : Option ((Int32 × Int32 × Int32) ⊕ (Int32 × Int32)) :=
  (gfI u (some t0) 12 25).bind fun v3 =>
  if s5 < v3 then
    (chk u (some t0) 12).bind fun b5 =>
    (fX12_counts t0 i1 s5 u).bind fun v6 =>
    if v6 = 0 then
      nm (s5 + 1 : Int32) fun x8 =>
      some (.inl (s3, s4, x8))
    else
      (gfR u (some t0) 12 31).bind fun v9 =>
      (alI u v9 20 s5).bind fun v10 =>
      if v10 < i2 then
        (gfR u (some t0) 12 42).bind fun v12 =>
        (fX12_pair i1 s5 u).bind fun v13 =>
        (alI u v12 20 v13).bind fun v14 =>
        nm (s3 + v14 : Int32) fun x15 =>
        (gfR u (some t0) 12 41).bind fun v16 =>
        (fX12_pair i1 s5 u).bind fun v17 =>
        (alI u v16 20 v17).bind fun v18 =>
        nm (s4 + v18 : Int32) fun x19 =>
        nm (s5 + 1 : Int32) fun x20 =>
        some (.inl (x15, x19, x20))
      else
        nm (s5 + 1 : Int32) fun x21 =>
        some (.inl (s3, s4, x21))
  else
    some (.inr (s3, s4))
def fX12_weightOn (t0 : Nat) (p1 : Int32) (p2 : Int32) (u : Mem) : Option (Int32) :=
  (gfI u (some t0) 12 1).bind fun v1 =>
  if v1 = 0 then
    some (1 : Int32)
  else
    (lp (fun s : Int32 × Int32 × Int32 => bX12_weightOn_17 t0 p1 p2 u s.1 s.2.1 s.2.2) FU ((0 : Int32), (0 : Int32), (0 : Int32))).bind fun r22 =>
    if r22.1 = 0 then
      some (1 : Int32)
    else
      if r22.1 < r22.2 then
        some (1 : Int32)
      else
        (nz64 (Int32.toInt64 r22.1)).bind fun z25 =>
        some ((1 : Int32) + (Int64.toInt32 (((100 : Int64) * (Int32.toInt64 (r22.1 - r22.2))) / (Int32.toInt64 r22.1))))
abbrev iX12_weight : MI := (yX12_weight, cX12_weight, 3, (some .int))
def fX12_weight (t0 : Nat) (p1 : Int32) (p2 : Int32) (u : Mem) : Option (Int32 × Mem) :=
  (fX12_isGuesser p1 u).bind fun v1 =>
  if v1 = 0 then
    some ((-2 : Int32), u)
  else
    (fX12_isDay p2 u).bind fun v3 =>
    if v3 = 0 then
      some ((-2 : Int32), u)
    else
      (chk u (some t0) 12).bind fun b5 =>
      (fX12_prepare t0 u).bind fun u6 =>
      (chk u6 (some t0) 12).bind fun b7 =>
      (fX12_weightOn t0 p1 p2 u6).bind fun v8 =>
      some (v8, u6)
abbrev iX12_isCopier : MI := (yX12_isCopier, cX12_isCopier, 5, (some .boolean))
def bX12_isCopier_13 (t0 : Nat) (i1 : Int32) (i2 : Int32) (i3 : Int32) (u : Mem) (s4 : Int32) : Option ((Int32) ⊕ ((Unit) ⊕ (Unit))) :=
  if s4 < (20 : Int32) then
    if s4 = i1 then
      nm (s4 + 1 : Int32) fun x5 =>
      some (.inl x5)
    else
      (chk u (some t0) 12).bind fun b6 =>
      (fX12_heldAt t0 s4 i2 i3 u).bind fun v7 =>
      if v7 = (-1 : Int32) then
        nm (s4 + 1 : Int32) fun x9 =>
        some (.inl x9)
      else
        (chk u (some t0) 12).bind fun b10 =>
        (fX12_copiesOf t0 i1 s4 i3 u).bind fun v11 =>
        (gfI u (some t0) 12 3).bind fun v12 =>
        if v11 < v12 then
          nm (s4 + 1 : Int32) fun x14 =>
          some (.inl x14)
        else
          some (.inr (.inr ()))
  else
    some (.inr (.inl ()))
def fX12_isCopier (t0 : Nat) (p1 : Int32) (p2 : Int32) (p3 : Int32) (u : Mem) : Option (Int32) :=
  (gfI u (some t0) 12 2).bind fun v1 =>
  if v1 = (-1 : Int32) then
    some (0 : Int32)
  else
    (lp (fun s : Int32 => bX12_isCopier_13 t0 p1 p2 p3 u s) FU (0 : Int32)).bind fun r15 =>
    sumE r15 (fun r16 =>
      some (0 : Int32)) (fun r17 =>
      some (1 : Int32))
abbrev iX12_joinedOn : MI := (yX12_joinedOn, cX12_joinedOn, 7, (some .int))
def bX12_joinedOn_5 (t0 : Nat) (i1 : Int32) (i2 : Int32) (i3 : Int32) (s4 : Int32) (u : Mem) : Option ((Int32 × Mem) ⊕ (Mem)) :=
  if s4 < (11 : Int32) then
    (gfR u (some t0) 12 49).bind fun v2 =>
    (asI u v2 20 s4 (0 : Int32)).bind fun u3 =>
    nm (s4 + 1 : Int32) fun x4 =>
    some (.inl (x4, u3))
  else
    some (.inr u)
def bX12_joinedOn_29 (t0 : Nat) (i1 : Int32) (i2 : Int32) (s3 : Int32) (s4 : Int32) (u : Mem) : Option ((Int32 × Int32 × Mem) ⊕ (Int32 × Mem)) :=
  if s4 < (20 : Int32) then
    (chk u (some t0) 12).bind fun b7 =>
    (fX12_heldAt t0 s4 i1 i2 u).bind fun v8 =>
    if v8 = (-1 : Int32) then
      nm (s4 + 1 : Int32) fun x10 =>
      some (.inl (s3, x10, u))
    else
      (chk u (some t0) 12).bind fun b11 =>
      (fX12_isCopier t0 s4 i1 i2 u).bind fun v12 =>
      if v12 = 0 then
        (chk u (some t0) 12).bind fun b14 =>
        (fX12_weightOn t0 s4 i2 u).bind fun v15 =>
        (gfR u (some t0) 12 49).bind fun v16 =>
        (alI u v16 20 v8).bind fun v17 =>
        (asI u v16 20 v8 ((v17 + v15))).bind fun u18 =>
        nm (s3 + v15 : Int32) fun x19 =>
        nm (s4 + 1 : Int32) fun x20 =>
        some (.inl (x19, x20, u18))
      else
        nm (s4 + 1 : Int32) fun x21 =>
        some (.inl (s3, x21, u))
  else
    some (.inr (s3, u))
def bX12_joinedOn_115 (t0 : Nat) (i3 : Int32) (u : Mem) (s4 : Int32) (s5 : Int32) : Option ((Int32 × Int32) ⊕ (Int32)) :=
  if ((2 : Int32) * s5) < i3 then
    nm (s4 + 1 : Int32) fun x27 =>
    (gfR u (some t0) 12 49).bind fun v28 =>
    (alI u v28 20 x27).bind fun v29 =>
    nm (s5 + v29 : Int32) fun x30 =>
    some (.inl (x27, x30))
  else
    some (.inr s4)
def fX12_joinedOn (t0 : Nat) (p1 : Int32) (p2 : Int32) (u : Mem) : Option (Int32 × Mem) :=
  (lp (fun s : Int32 × Mem => bX12_joinedOn_5 t0 p1 p2 (0 : Int32) s.1 s.2) FU ((0 : Int32), u)).bind fun r5 =>
  (lp (fun s : Int32 × Int32 × Mem => bX12_joinedOn_29 t0 p1 p2 s.1 s.2.1 s.2.2) FU ((0 : Int32), (0 : Int32), r5)).bind fun r22 =>
  if r22.1 = 0 then
    some ((-1 : Int32), r22.2)
  else
    (gfR r22.2 (some t0) 12 49).bind fun v24 =>
    (alI r22.2 v24 20 (0 : Int32)).bind fun v25 =>
    (lp (fun s : Int32 × Int32 => bX12_joinedOn_115 t0 r22.1 r22.2 s.1 s.2) FU ((0 : Int32), v25)).bind fun r31 =>
    some (r31, r22.2)
abbrev iX12_ready : MI := (yX12_ready, cX12_ready, 1, (Option.none : Option FieldType))
def fX12_ready (t0 : Nat) (u : Mem) : Option (Mem) :=
  (chk u (some t0) 12).bind fun b1 =>
  (fX12_prepare t0 u).bind fun u2 =>
  (gfI u2 (some t0) 12 2).bind fun v3 =>
  if v3 = (-1 : Int32) then
    some u2
  else
    (chk u2 (some t0) 12).bind fun b5 =>
    (fX12_findCopies t0 u2).bind fun u6 =>
    some u6
abbrev iX12_joined : MI := (yX12_joined, cX12_joined, 3, (some .int))
def fX12_joined (t0 : Nat) (p1 : Int32) (p2 : Int32) (u : Mem) : Option (Int32 × Mem) :=
  (chk u (some t0) 12).bind fun b1 =>
  (fX12_isQuestion t0 p1 u).bind fun v2 =>
  if v2 = 0 then
    some ((-2 : Int32), u)
  else
    (fX12_isDay p2 u).bind fun v4 =>
    if v4 = 0 then
      some ((-2 : Int32), u)
    else
      (chk u (some t0) 12).bind fun b6 =>
      (fX12_ready t0 u).bind fun u7 =>
      (chk u7 (some t0) 12).bind fun b8 =>
      bnd2 (fX12_joinedOn t0 p1 p2 u7) fun v9 u10 =>
      some (v9, u10)
theorem btX12_prepare_2 {l : Launch} {G : Gt} {d : Nat} {t0 : Nat} {s1 : Int32} {u : Mem} {y : (Int32 × Mem) ⊕ (Mem)} {o : Outcome} {u' : Mem} (h : bX12_prepare_2 t0 s1 u = some y) (k0 : ∀ s' : Int32 × Mem, y = .inl s' → Rn l G iX12_prepare (d + 4) 2 [(0, rv (some t0)), (1, .int s'.1)] [] s'.2 o u') (k1 : ∀ r : Mem, y = .inr (r) → Rn l G iX12_prepare (d + 4) 43 [(0, rv (some t0))] [] r o u') : Rn l G iX12_prepare (d + 4) 2 [(0, rv (some t0)), (1, .int s1)] [] u o u' := by
  unfold bX12_prepare_2 at h
  refine rn_iload_n (pc := 2) 1 dX12_prepare_2 rfl rfl ?_
  refine rn_sipush (pc := 3) (v := 400) dX12_prepare_3 (by decide) ?_
  rcases if_elim h with ⟨c1, h1⟩ | ⟨c1, h1⟩
  · refine rn_ige_f (pc := 6) 43 dX12_prepare_6 (by decide) c1 ?_
    refine rn_aload_n (pc := 9) 0 dX12_prepare_9 rfl rfl ?_
    obtain ⟨v2, hv2, h2⟩ := bnd_some h1
    refine rn_getR (pc := 10) (k := 43) okX12 (by decide) tw_1033 rfl dX12_prepare_10 hv2 ?_
    refine rn_iload_n (pc := 13) 1 dX12_prepare_13 rfl rfl ?_
    refine rn_iconst (pc := 14) (v := 0) dX12_prepare_14 (by decide) ?_
    obtain ⟨u3, hu3, h3⟩ := bnd_some h2
    refine rn_zast (pc := 15) dX12_prepare_15 hu3 ?_
    refine rn_aload_n (pc := 16) 0 dX12_prepare_16 rfl rfl ?_
    obtain ⟨v4, hv4, h4⟩ := bnd_some h3
    refine rn_getR (pc := 17) (k := 40) okX12 (by decide) tw_1030 rfl dX12_prepare_17 hv4 ?_
    refine rn_iload_n (pc := 20) 1 dX12_prepare_20 rfl rfl ?_
    refine rn_iconst (pc := 21) (v := 0) dX12_prepare_21 (by decide) ?_
    obtain ⟨u5, hu5, h5⟩ := bnd_some h4
    refine rn_iast (pc := 22) dX12_prepare_22 hu5 ?_
    refine rn_aload_n (pc := 23) 0 dX12_prepare_23 rfl rfl ?_
    obtain ⟨v6, hv6, h6⟩ := bnd_some h5
    refine rn_getR (pc := 24) (k := 41) okX12 (by decide) tw_1031 rfl dX12_prepare_24 hv6 ?_
    refine rn_iload_n (pc := 27) 1 dX12_prepare_27 rfl rfl ?_
    refine rn_iconst (pc := 28) (v := 0) dX12_prepare_28 (by decide) ?_
    obtain ⟨u7, hu7, h7⟩ := bnd_some h6
    refine rn_iast (pc := 29) dX12_prepare_29 hu7 ?_
    refine rn_aload_n (pc := 30) 0 dX12_prepare_30 rfl rfl ?_
    obtain ⟨v8, hv8, h8⟩ := bnd_some h7
    refine rn_getR (pc := 31) (k := 42) okX12 (by decide) tw_1032 rfl dX12_prepare_31 hv8 ?_
    refine rn_iload_n (pc := 34) 1 dX12_prepare_34 rfl rfl ?_
    refine rn_iconst (pc := 35) (v := 0) dX12_prepare_35 (by decide) ?_
    obtain ⟨u9, hu9, h9⟩ := bnd_some h8
    refine rn_iast (pc := 36) dX12_prepare_36 hu9 ?_
    obtain ⟨x10, ex10, h10⟩ := nm_elim h9
    refine rn_iinc (pc := 37) (v := x10) (lv' := [(1, .int x10), (0, rv (some t0))]) 1 dX12_prepare_37 rfl (by rw [ex10]; rfl) (by decide) rfl ?_
    refine rn_goto (pc := 40) (tgt := 2) dX12_prepare_40 (by decide) ?_
    cases h10
    exact rn_sub [1, 0] rfl (k0 _ rfl)
  · refine rn_ige_t (pc := 6) (tgt := 43) dX12_prepare_6 (by decide) c1 ?_
    cases h1
    exact rn_sub [0] rfl (k1 _ rfl)
theorem lX12_prepare_2 {l : Launch} {G : Gt} {d : Nat} {t0 : Nat} {N : Nat} {s0 : Int32 × Mem} {r : Mem} {o : Outcome} {u' : Mem} (h : lp (fun s : Int32 × Mem => bX12_prepare_2 t0 s.1 s.2) N s0 = some r) (k1 : Rn l G iX12_prepare (d + 4) 43 [(0, rv (some t0))] [] r o u') : Rn l G iX12_prepare (d + 4) 2 [(0, rv (some t0)), (1, .int s0.1)] [] s0.2 o u' :=
  lp_run (P := fun s : Int32 × Mem => Rn l G iX12_prepare (d + 4) 2 [(0, rv (some t0)), (1, .int s.1)] [] s.2 o u') (E := fun r => Rn l G iX12_prepare (d + 4) 43 [(0, rv (some t0))] [] r o u') (fun s y hy k0 kE => btX12_prepare_2 hy (fun s' e => k0 s' e) (fun r e => kE r e)) N s0 r h k1
theorem btX12_prepare_45 {l : Launch} {G : Gt} {d : Nat} {t0 : Nat} {s1 : Int32} {u : Mem} {y : (Int32 × Mem) ⊕ (Mem)} {o : Outcome} {u' : Mem} (h : bX12_prepare_45 t0 s1 u = some y) (k0 : ∀ s' : Int32 × Mem, y = .inl s' → Rn l G iX12_prepare (d + 4) 45 [(0, rv (some t0)), (1, .int s'.1)] [] s'.2 o u') (k1 : ∀ r : Mem, y = .inr (r) → Rn l G iX12_prepare (d + 4) 65 [(0, rv (some t0))] [] r o u') : Rn l G iX12_prepare (d + 4) 45 [(0, rv (some t0)), (1, .int s1)] [] u o u' := by
  unfold bX12_prepare_45 at h
  refine rn_iload_n (pc := 45) 1 dX12_prepare_45 rfl rfl ?_
  refine rn_sipush (pc := 46) (v := 24000) dX12_prepare_46 (by decide) ?_
  rcases if_elim h with ⟨c12, h1⟩ | ⟨c12, h1⟩
  · refine rn_ige_f (pc := 49) 65 dX12_prepare_49 (by decide) c12 ?_
    refine rn_aload_n (pc := 52) 0 dX12_prepare_52 rfl rfl ?_
    obtain ⟨v13, hv13, h2⟩ := bnd_some h1
    refine rn_getR (pc := 53) (k := 39) okX12 (by decide) tw_1029 rfl dX12_prepare_53 hv13 ?_
    refine rn_iload_n (pc := 56) 1 dX12_prepare_56 rfl rfl ?_
    refine rn_iconst (pc := 57) (v := -1) dX12_prepare_57 (by decide) ?_
    obtain ⟨u14, hu14, h3⟩ := bnd_some h2
    refine rn_iast (pc := 58) dX12_prepare_58 hu14 ?_
    obtain ⟨x15, ex15, h4⟩ := nm_elim h3
    refine rn_iinc (pc := 59) (v := x15) (lv' := [(1, .int x15), (0, rv (some t0))]) 1 dX12_prepare_59 rfl (by rw [ex15]; rfl) (by decide) rfl ?_
    refine rn_goto (pc := 62) (tgt := 45) dX12_prepare_62 (by decide) ?_
    cases h4
    exact rn_sub [1, 0] rfl (k0 _ rfl)
  · refine rn_ige_t (pc := 49) (tgt := 65) dX12_prepare_49 (by decide) c12 ?_
    cases h1
    exact rn_sub [0] rfl (k1 _ rfl)
theorem lX12_prepare_45 {l : Launch} {G : Gt} {d : Nat} {t0 : Nat} {N : Nat} {s0 : Int32 × Mem} {r : Mem} {o : Outcome} {u' : Mem} (h : lp (fun s : Int32 × Mem => bX12_prepare_45 t0 s.1 s.2) N s0 = some r) (k1 : Rn l G iX12_prepare (d + 4) 65 [(0, rv (some t0))] [] r o u') : Rn l G iX12_prepare (d + 4) 45 [(0, rv (some t0)), (1, .int s0.1)] [] s0.2 o u' :=
  lp_run (P := fun s : Int32 × Mem => Rn l G iX12_prepare (d + 4) 45 [(0, rv (some t0)), (1, .int s.1)] [] s.2 o u') (E := fun r => Rn l G iX12_prepare (d + 4) 65 [(0, rv (some t0))] [] r o u') (fun s y hy k0 kE => btX12_prepare_45 hy (fun s' e => k0 s' e) (fun r e => kE r e)) N s0 r h k1
theorem btX12_prepare_105 {l : Launch} {G : Gt} {d : Nat} {t0 : Nat} {i1 : Int32} {i2 : Int32} {s3 : Int32} {u : Mem} {y : (Int32 × Mem) ⊕ (Mem)} {o : Outcome} {u' : Mem} (h : bX12_prepare_105 t0 i1 i2 s3 u = some y) (k0 : ∀ s' : Int32 × Mem, y = .inl s' → Rn l G iX12_prepare (d + 4) 105 [(0, rv (some t0)), (1, .int i1), (2, .int i2), (3, .int s'.1)] [] s'.2 o u') (k1 : ∀ r : Mem, y = .inr (r) → Rn l G iX12_prepare (d + 4) 155 [(0, rv (some t0)), (1, .int i1)] [] r o u') : Rn l G iX12_prepare (d + 4) 105 [(0, rv (some t0)), (1, .int i1), (2, .int i2), (3, .int s3)] [] u o u' := by
  unfold bX12_prepare_105 at h
  refine rn_iload_n (pc := 105) 3 dX12_prepare_105 rfl rfl ?_
  refine rn_aload_n (pc := 106) 0 dX12_prepare_106 rfl rfl ?_
  obtain ⟨v28, hv28, h1⟩ := bnd_some h
  refine rn_getR (pc := 107) (k := 29) okX12 (by decide) tw_1019 rfl dX12_prepare_107 hv28 ?_
  refine rn_aload_n (pc := 110) 0 dX12_prepare_110 rfl rfl ?_
  obtain ⟨v29, hv29, h2⟩ := bnd_some h1
  refine rn_getR (pc := 111) (k := 33) okX12 (by decide) tw_1023 rfl dX12_prepare_111 hv29 ?_
  refine rn_iload_n (pc := 114) 1 dX12_prepare_114 rfl rfl ?_
  obtain ⟨v30, hv30, h3⟩ := bnd_some h2
  refine rn_iald (pc := 115) dX12_prepare_115 hv30 ?_
  obtain ⟨v31, hv31, h4⟩ := bnd_some h3
  refine rn_iald (pc := 116) dX12_prepare_116 hv31 ?_
  rcases if_elim h4 with ⟨c32, h5⟩ | ⟨c32, h5⟩
  · refine rn_igt_t (pc := 117) (tgt := 155) dX12_prepare_117 (by decide) c32 ?_
    cases h5
    exact rn_sub [0, 1] rfl (k1 _ rfl)
  · refine rn_igt_f (pc := 117) 155 dX12_prepare_117 (by decide) c32 ?_
    refine rn_aload_n (pc := 120) 0 dX12_prepare_120 rfl rfl ?_
    obtain ⟨v33, hv33, h6⟩ := bnd_some h5
    refine rn_getR (pc := 121) (k := 39) okX12 (by decide) tw_1029 rfl dX12_prepare_121 hv33 ?_
    refine rn_bipush (pc := 124) (v := 60) dX12_prepare_124 (by decide) ?_
    refine rn_iload_n (pc := 126) 2 dX12_prepare_126 rfl rfl ?_
    refine rn_imul (pc := 127) dX12_prepare_127 ?_
    refine rn_iload_n (pc := 128) 3 dX12_prepare_128 rfl rfl ?_
    refine rn_iadd (pc := 129) dX12_prepare_129 ?_
    refine rn_aload_n (pc := 130) 0 dX12_prepare_130 rfl rfl ?_
    obtain ⟨v34, hv34, h7⟩ := bnd_some h6
    refine rn_getR (pc := 131) (k := 28) okX12 (by decide) tw_1018 rfl dX12_prepare_131 hv34 ?_
    refine rn_aload_n (pc := 134) 0 dX12_prepare_134 rfl rfl ?_
    obtain ⟨v35, hv35, h8⟩ := bnd_some h7
    refine rn_getR (pc := 135) (k := 33) okX12 (by decide) tw_1023 rfl dX12_prepare_135 hv35 ?_
    refine rn_iload_n (pc := 138) 1 dX12_prepare_138 rfl rfl ?_
    obtain ⟨v36, hv36, h9⟩ := bnd_some h8
    refine rn_iald (pc := 139) dX12_prepare_139 hv36 ?_
    obtain ⟨v37, hv37, h10⟩ := bnd_some h9
    refine rn_iald (pc := 140) dX12_prepare_140 hv37 ?_
    refine rn_isub (pc := 141) dX12_prepare_141 ?_
    refine rn_aload_n (pc := 142) 0 dX12_prepare_142 rfl rfl ?_
    obtain ⟨v38, hv38, h11⟩ := bnd_some h10
    refine rn_getR (pc := 143) (k := 35) okX12 (by decide) tw_1025 rfl dX12_prepare_143 hv38 ?_
    refine rn_iload_n (pc := 146) 1 dX12_prepare_146 rfl rfl ?_
    obtain ⟨v39, hv39, h12⟩ := bnd_some h11
    refine rn_iald (pc := 147) dX12_prepare_147 hv39 ?_
    obtain ⟨u40, hu40, h13⟩ := bnd_some h12
    refine rn_iast (pc := 148) dX12_prepare_148 hu40 ?_
    obtain ⟨x41, ex41, h14⟩ := nm_elim h13
    refine rn_iinc (pc := 149) (v := x41) (lv' := [(3, .int x41), (0, rv (some t0)), (1, .int i1), (2, .int i2)]) 3 dX12_prepare_149 rfl (by rw [ex41]; rfl) (by decide) rfl ?_
    refine rn_goto (pc := 152) (tgt := 105) dX12_prepare_152 (by decide) ?_
    cases h14
    exact rn_sub [1, 2, 3, 0] rfl (k0 _ rfl)
theorem lX12_prepare_105 {l : Launch} {G : Gt} {d : Nat} {t0 : Nat} {i1 : Int32} {i2 : Int32} {N : Nat} {s0 : Int32 × Mem} {r : Mem} {o : Outcome} {u' : Mem} (h : lp (fun s : Int32 × Mem => bX12_prepare_105 t0 i1 i2 s.1 s.2) N s0 = some r) (k1 : Rn l G iX12_prepare (d + 4) 155 [(0, rv (some t0)), (1, .int i1)] [] r o u') : Rn l G iX12_prepare (d + 4) 105 [(0, rv (some t0)), (1, .int i1), (2, .int i2), (3, .int s0.1)] [] s0.2 o u' :=
  lp_run (P := fun s : Int32 × Mem => Rn l G iX12_prepare (d + 4) 105 [(0, rv (some t0)), (1, .int i1), (2, .int i2), (3, .int s.1)] [] s.2 o u') (E := fun r => Rn l G iX12_prepare (d + 4) 155 [(0, rv (some t0)), (1, .int i1)] [] r o u') (fun s y hy k0 kE => btX12_prepare_105 hy (fun s' e => k0 s' e) (fun r e => kE r e)) N s0 r h k1
theorem btX12_prepare_67 {l : Launch} {G : Gt} {d : Nat} {t0 : Nat} {s1 : Int32} {u : Mem} {y : (Int32 × Mem) ⊕ (Mem)} {o : Outcome} {u' : Mem} (h : bX12_prepare_67 t0 s1 u = some y) (k0 : ∀ s' : Int32 × Mem, y = .inl s' → Rn l G iX12_prepare (d + 4) 67 [(0, rv (some t0)), (1, .int s'.1)] [] s'.2 o u') (k1 : ∀ r : Mem, y = .inr (r) → Rn l G iX12_prepare (d + 4) 161 [(0, rv (some t0))] [] r o u') : Rn l G iX12_prepare (d + 4) 67 [(0, rv (some t0)), (1, .int s1)] [] u o u' := by
  unfold bX12_prepare_67 at h
  refine rn_iload_n (pc := 67) 1 dX12_prepare_67 rfl rfl ?_
  refine rn_aload_n (pc := 68) 0 dX12_prepare_68 rfl rfl ?_
  obtain ⟨v17, hv17, h1⟩ := bnd_some h
  refine rn_getI (pc := 69) (k := 26) okX12 (by decide) tw_1016 rfl dX12_prepare_69 hv17 ?_
  rcases if_elim h1 with ⟨c18, h2⟩ | ⟨c18, h2⟩
  · refine rn_ige_f (pc := 72) 161 dX12_prepare_72 (by decide) c18 ?_
    refine rn_aload_n (pc := 75) 0 dX12_prepare_75 rfl rfl ?_
    obtain ⟨v19, hv19, h3⟩ := bnd_some h2
    refine rn_getR (pc := 76) (k := 32) okX12 (by decide) tw_1022 rfl dX12_prepare_76 hv19 ?_
    refine rn_iload_n (pc := 79) 1 dX12_prepare_79 rfl rfl ?_
    obtain ⟨v20, hv20, h4⟩ := bnd_some h3
    refine rn_iald (pc := 80) dX12_prepare_80 hv20 ?_
    refine rn_aload_n (pc := 81) 0 dX12_prepare_81 rfl rfl ?_
    obtain ⟨v21, hv21, h5⟩ := bnd_some h4
    refine rn_getR (pc := 82) (k := 33) okX12 (by decide) tw_1023 rfl dX12_prepare_82 hv21 ?_
    refine rn_iload_n (pc := 85) 1 dX12_prepare_85 rfl rfl ?_
    obtain ⟨v22, hv22, h6⟩ := bnd_some h5
    refine rn_iald (pc := 86) dX12_prepare_86 hv22 ?_
    obtain ⟨v23, hv23, h7⟩ := bnd_some h6
    refine rn_callS (pc := 87) (n := 2) (As := [.int v20, .int v22]) (rest := []) (eX12_pair (d := d + 3) hv23) (by omega) tw_1270 tw_79 tw_1268 tw_1269 (by decide +kernel) rfl (Nat.le_of_ble_eq_true rfl) dX12_prepare_87 rfl ?_
    refine rn_istore_n (pc := 90) (lv' := [(2, .int v23), (0, rv (some t0)), (1, .int s1)]) dX12_prepare_90 rfl (by decide) rfl ?_
    refine rn_aload_n (pc := 91) 1 dX12_prepare_91 rfl rfl ?_
    obtain ⟨v24, hv24, h8⟩ := bnd_some h7
    refine rn_getR (pc := 92) (k := 43) okX12 (by decide) tw_1033 rfl dX12_prepare_92 hv24 ?_
    refine rn_iload_n (pc := 95) 0 dX12_prepare_95 rfl rfl ?_
    refine rn_iconst (pc := 96) (v := 1) dX12_prepare_96 (by decide) ?_
    obtain ⟨u25, hu25, h9⟩ := bnd_some h8
    refine rn_zast (pc := 97) dX12_prepare_97 hu25 ?_
    refine rn_aload_n (pc := 98) 1 dX12_prepare_98 rfl rfl ?_
    obtain ⟨v26, hv26, h10⟩ := bnd_some h9
    refine rn_getR (pc := 99) (k := 34) okX12 (by decide) tw_1024 rfl dX12_prepare_99 hv26 ?_
    refine rn_iload_n (pc := 102) 2 dX12_prepare_102 rfl rfl ?_
    obtain ⟨v27, hv27, h11⟩ := bnd_some h10
    refine rn_iald (pc := 103) dX12_prepare_103 hv27 ?_
    refine rn_istore_n (pc := 104) (lv' := [(3, .int v27), (2, .int v23), (0, rv (some t0)), (1, .int s1)]) dX12_prepare_104 rfl (by decide) rfl ?_
    obtain ⟨r42, hr42, h12⟩ := bnd_some h11
    refine rn_sub [2, 3, 1, 0] rfl (lX12_prepare_105 hr42 ?_)
    obtain ⟨x43, ex43, h13⟩ := nm_elim h12
    refine rn_iinc (pc := 155) (v := x43) (lv' := [(1, .int x43), (0, rv (some t0))]) 1 dX12_prepare_155 rfl (by rw [ex43]; rfl) (by decide) rfl ?_
    refine rn_goto (pc := 158) (tgt := 67) dX12_prepare_158 (by decide) ?_
    cases h13
    exact rn_sub [1, 0] rfl (k0 _ rfl)
  · refine rn_ige_t (pc := 72) (tgt := 161) dX12_prepare_72 (by decide) c18 ?_
    cases h2
    exact rn_sub [0] rfl (k1 _ rfl)
theorem lX12_prepare_67 {l : Launch} {G : Gt} {d : Nat} {t0 : Nat} {N : Nat} {s0 : Int32 × Mem} {r : Mem} {o : Outcome} {u' : Mem} (h : lp (fun s : Int32 × Mem => bX12_prepare_67 t0 s.1 s.2) N s0 = some r) (k1 : Rn l G iX12_prepare (d + 4) 161 [(0, rv (some t0))] [] r o u') : Rn l G iX12_prepare (d + 4) 67 [(0, rv (some t0)), (1, .int s0.1)] [] s0.2 o u' :=
  lp_run (P := fun s : Int32 × Mem => Rn l G iX12_prepare (d + 4) 67 [(0, rv (some t0)), (1, .int s.1)] [] s.2 o u') (E := fun r => Rn l G iX12_prepare (d + 4) 161 [(0, rv (some t0))] [] r o u') (fun s y hy k0 kE => btX12_prepare_67 hy (fun s' e => k0 s' e) (fun r e => kE r e)) N s0 r h k1
theorem btX12_prepare_171 {l : Launch} {G : Gt} {d : Nat} {t0 : Nat} {i1 : Int32} {s2 : Int32} {u : Mem} {y : (Int32 × Mem) ⊕ (Mem)} {o : Outcome} {u' : Mem} (h : bX12_prepare_171 t0 i1 s2 u = some y) (k0 : ∀ s' : Int32 × Mem, y = .inl s' → Rn l G iX12_prepare (d + 4) 171 [(0, rv (some t0)), (1, .int i1), (2, .int s'.1)] [] s'.2 o u') (k1 : ∀ r : Mem, y = .inr (r) → Rn l G iX12_prepare (d + 4) 199 [(0, rv (some t0)), (1, .int i1)] [] r o u') : Rn l G iX12_prepare (d + 4) 171 [(0, rv (some t0)), (1, .int i1), (2, .int s2)] [] u o u' := by
  unfold bX12_prepare_171 at h
  refine rn_iload_n (pc := 171) 2 dX12_prepare_171 rfl rfl ?_
  refine rn_aload_n (pc := 172) 0 dX12_prepare_172 rfl rfl ?_
  obtain ⟨v46, hv46, h1⟩ := bnd_some h
  refine rn_getI (pc := 173) (k := 25) okX12 (by decide) tw_1015 rfl dX12_prepare_173 hv46 ?_
  rcases if_elim h1 with ⟨c47, h2⟩ | ⟨c47, h2⟩
  · refine rn_ige_f (pc := 176) 199 dX12_prepare_176 (by decide) c47 ?_
    refine rn_aload_n (pc := 179) 0 dX12_prepare_179 rfl rfl ?_
    refine rn_iload_n (pc := 180) 2 dX12_prepare_180 rfl rfl ?_
    obtain ⟨b48, hb48, h3⟩ := bnd_some h2
    obtain ⟨qb48, kb48⟩ := chk_elim hb48
    cases qb48
    obtain ⟨v49, hv49, h4⟩ := bnd_some h3
    refine rn_callV (pc := 181) (n := 1) (As := [.int s2]) (rest := []) (eX12_isKnown (d := d + 3) hv49) (by omega) okX12 kb48 tw_1273 tw_79 tw_1271 tw_1272 tw_46 (by decide +kernel) rfl (Nat.le_of_ble_eq_true rfl) dX12_prepare_181 rfl ?_
    rcases if_elim h4 with ⟨c50, h5⟩ | ⟨c50, h5⟩
    · refine rn_zeq_t (pc := 184) (tgt := 193) dX12_prepare_184 (by decide) c50 ?_
      obtain ⟨x51, ex51, h6⟩ := nm_elim h5
      refine rn_iinc (pc := 193) (v := x51) (lv' := [(2, .int x51), (0, rv (some t0)), (1, .int i1)]) 2 dX12_prepare_193 rfl (by rw [ex51]; rfl) (by decide) rfl ?_
      refine rn_goto (pc := 196) (tgt := 171) dX12_prepare_196 (by decide) ?_
      cases h6
      exact rn_sub [1, 2, 0] rfl (k0 _ rfl)
    · refine rn_zeq_f (pc := 184) 193 dX12_prepare_184 (by decide) c50 ?_
      refine rn_aload_n (pc := 187) 0 dX12_prepare_187 rfl rfl ?_
      refine rn_iload_n (pc := 188) 1 dX12_prepare_188 rfl rfl ?_
      refine rn_iload_n (pc := 189) 2 dX12_prepare_189 rfl rfl ?_
      obtain ⟨b52, hb52, h7⟩ := bnd_some h5
      obtain ⟨qb52, kb52⟩ := chk_elim hb52
      cases qb52
      obtain ⟨u53, hu53, h8⟩ := bnd_some h7
      refine rn_callV (pc := 190) (n := 2) (As := [.int i1, .int s2]) (rest := []) (eX12_sumRows (d := d + 0) hu53) (by omega) okX12 kb52 tw_1276 tw_79 tw_1274 tw_1275 tw_47 (by decide +kernel) rfl (Nat.le_of_ble_eq_true rfl) dX12_prepare_190 rfl ?_
      obtain ⟨x54, ex54, h9⟩ := nm_elim h8
      refine rn_iinc (pc := 193) (v := x54) (lv' := [(2, .int x54), (0, rv (some t0)), (1, .int i1)]) 2 dX12_prepare_193 rfl (by rw [ex54]; rfl) (by decide) rfl ?_
      refine rn_goto (pc := 196) (tgt := 171) dX12_prepare_196 (by decide) ?_
      cases h9
      exact rn_sub [1, 2, 0] rfl (k0 _ rfl)
  · refine rn_ige_t (pc := 176) (tgt := 199) dX12_prepare_176 (by decide) c47 ?_
    cases h2
    exact rn_sub [0, 1] rfl (k1 _ rfl)
theorem lX12_prepare_171 {l : Launch} {G : Gt} {d : Nat} {t0 : Nat} {i1 : Int32} {N : Nat} {s0 : Int32 × Mem} {r : Mem} {o : Outcome} {u' : Mem} (h : lp (fun s : Int32 × Mem => bX12_prepare_171 t0 i1 s.1 s.2) N s0 = some r) (k1 : Rn l G iX12_prepare (d + 4) 199 [(0, rv (some t0)), (1, .int i1)] [] r o u') : Rn l G iX12_prepare (d + 4) 171 [(0, rv (some t0)), (1, .int i1), (2, .int s0.1)] [] s0.2 o u' :=
  lp_run (P := fun s : Int32 × Mem => Rn l G iX12_prepare (d + 4) 171 [(0, rv (some t0)), (1, .int i1), (2, .int s.1)] [] s.2 o u') (E := fun r => Rn l G iX12_prepare (d + 4) 199 [(0, rv (some t0)), (1, .int i1)] [] r o u') (fun s y hy k0 kE => btX12_prepare_171 hy (fun s' e => k0 s' e) (fun r e => kE r e)) N s0 r h k1
theorem btX12_prepare_163 {l : Launch} {G : Gt} {d : Nat} {t0 : Nat} {s1 : Int32} {u : Mem} {y : (Int32 × Mem) ⊕ (Mem)} {o : Outcome} {u' : Mem} (h : bX12_prepare_163 t0 s1 u = some y) (k0 : ∀ s' : Int32 × Mem, y = .inl s' → Rn l G iX12_prepare (d + 4) 163 [(0, rv (some t0)), (1, .int s'.1)] [] s'.2 o u') (k1 : ∀ r : Mem, y = .inr (r) → Rn l G iX12_prepare (d + 4) 205 [] [] r o u') : Rn l G iX12_prepare (d + 4) 163 [(0, rv (some t0)), (1, .int s1)] [] u o u' := by
  unfold bX12_prepare_163 at h
  refine rn_iload_n (pc := 163) 1 dX12_prepare_163 rfl rfl ?_
  refine rn_bipush (pc := 164) (v := 20) dX12_prepare_164 (by decide) ?_
  rcases if_elim h with ⟨c45, h1⟩ | ⟨c45, h1⟩
  · refine rn_ige_f (pc := 166) 205 dX12_prepare_166 (by decide) c45 ?_
    refine rn_iconst (pc := 169) (v := 0) dX12_prepare_169 (by decide) ?_
    refine rn_istore_n (pc := 170) (lv' := [(2, .int (0 : Int32)), (0, rv (some t0)), (1, .int s1)]) dX12_prepare_170 rfl (by decide) rfl ?_
    obtain ⟨r55, hr55, h2⟩ := bnd_some h1
    refine rn_sub [1, 2, 0] rfl (lX12_prepare_171 hr55 ?_)
    obtain ⟨x56, ex56, h3⟩ := nm_elim h2
    refine rn_iinc (pc := 199) (v := x56) (lv' := [(1, .int x56), (0, rv (some t0))]) 1 dX12_prepare_199 rfl (by rw [ex56]; rfl) (by decide) rfl ?_
    refine rn_goto (pc := 202) (tgt := 163) dX12_prepare_202 (by decide) ?_
    cases h3
    exact rn_sub [1, 0] rfl (k0 _ rfl)
  · refine rn_ige_t (pc := 166) (tgt := 205) dX12_prepare_166 (by decide) c45 ?_
    cases h1
    exact rn_sub [] rfl (k1 _ rfl)
theorem lX12_prepare_163 {l : Launch} {G : Gt} {d : Nat} {t0 : Nat} {N : Nat} {s0 : Int32 × Mem} {r : Mem} {o : Outcome} {u' : Mem} (h : lp (fun s : Int32 × Mem => bX12_prepare_163 t0 s.1 s.2) N s0 = some r) (k1 : Rn l G iX12_prepare (d + 4) 205 [] [] r o u') : Rn l G iX12_prepare (d + 4) 163 [(0, rv (some t0)), (1, .int s0.1)] [] s0.2 o u' :=
  lp_run (P := fun s : Int32 × Mem => Rn l G iX12_prepare (d + 4) 163 [(0, rv (some t0)), (1, .int s.1)] [] s.2 o u') (E := fun r => Rn l G iX12_prepare (d + 4) 205 [] [] r o u') (fun s y hy k0 kE => btX12_prepare_163 hy (fun s' e => k0 s' e) (fun r e => kE r e)) N s0 r h k1
theorem tX12_prepare {l : Launch} {G : Gt} {d : Nat} {t0 : Nat} {u : Mem} {y : Mem} (h : fX12_prepare t0 u = some y) : Rn l G iX12_prepare (d + 4) 0 [(0, rv (some t0))] [] u (.returned none) y := by
  unfold fX12_prepare at h
  refine rn_iconst (pc := 0) (v := 0) dX12_prepare_0 (by decide) ?_
  refine rn_istore_n (pc := 1) (lv' := [(1, .int (0 : Int32)), (0, rv (some t0))]) dX12_prepare_1 rfl (by decide) rfl ?_
  obtain ⟨r11, hr11, h1⟩ := bnd_some h
  refine rn_sub [1, 0] rfl (lX12_prepare_2 hr11 ?_)
  refine rn_iconst (pc := 43) (v := 0) dX12_prepare_43 (by decide) ?_
  refine rn_istore_n (pc := 44) (lv' := [(1, .int (0 : Int32)), (0, rv (some t0))]) dX12_prepare_44 rfl (by decide) rfl ?_
  obtain ⟨r16, hr16, h2⟩ := bnd_some h1
  refine rn_sub [1, 0] rfl (lX12_prepare_45 hr16 ?_)
  refine rn_iconst (pc := 65) (v := 0) dX12_prepare_65 (by decide) ?_
  refine rn_istore_n (pc := 66) (lv' := [(1, .int (0 : Int32)), (0, rv (some t0))]) dX12_prepare_66 rfl (by decide) rfl ?_
  obtain ⟨r44, hr44, h3⟩ := bnd_some h2
  refine rn_sub [1, 0] rfl (lX12_prepare_67 hr44 ?_)
  refine rn_iconst (pc := 161) (v := 0) dX12_prepare_161 (by decide) ?_
  refine rn_istore_n (pc := 162) (lv' := [(1, .int (0 : Int32)), (0, rv (some t0))]) dX12_prepare_162 rfl (by decide) rfl ?_
  obtain ⟨r57, hr57, h4⟩ := bnd_some h3
  refine rn_sub [1, 0] rfl (lX12_prepare_163 hr57 ?_)
  cases h4
  exact rn_vret (pc := 205) rfl dX12_prepare_205
theorem eX12_prepare {l : Launch} {G : Gt} {d : Nat} {t0 : Nat} {u : Mem} {y : Mem} (h : fX12_prepare t0 u = some y) : Ex l G iX12_prepare (d + 4) [rv (some t0)] u (.returned none) y := Ex.of (by decide +kernel) (by decide) (Nat.le_of_ble_eq_true rfl) rfl (tX12_prepare h)
theorem tX12_counts {l : Launch} {G : Gt} {d : Nat} {t0 : Nat} {p1 : Int32} {p2 : Int32} {u : Mem} {y : Int32} (h : fX12_counts t0 p1 p2 u = some y) : Rn l G iX12_counts (d + 1) 0 [(0, rv (some t0)), (1, .int p1), (2, .int p2)] [] u (.returned (some (.int y))) u := by
  unfold fX12_counts at h
  refine rn_aload_n (pc := 0) 0 dX12_counts_0 rfl rfl ?_
  refine rn_iload_n (pc := 1) 2 dX12_counts_1 rfl rfl ?_
  obtain ⟨b1, hb1, h1⟩ := bnd_some h
  obtain ⟨qb1, kb1⟩ := chk_elim hb1
  cases qb1
  obtain ⟨v2, hv2, h2⟩ := bnd_some h1
  refine rn_callV (pc := 2) (n := 1) (As := [.int p2]) (rest := []) (eX12_isKnown (d := d + 0) hv2) (by omega) okX12 kb1 tw_1273 tw_79 tw_1271 tw_1272 tw_46 (by decide +kernel) rfl (Nat.le_of_ble_eq_true rfl) dX12_counts_2 rfl ?_
  rcases if_elim h2 with ⟨c3, h3⟩ | ⟨c3, h3⟩
  · refine rn_zeq_t (pc := 5) (tgt := 29) dX12_counts_5 (by decide) c3 ?_
    refine rn_iconst (pc := 29) (v := 0) dX12_counts_29 (by decide) ?_
    cases h3
    exact rn_zret (pc := 30) (by decide) rfl dX12_counts_30
  · refine rn_zeq_f (pc := 5) 29 dX12_counts_5 (by decide) c3 ?_
    refine rn_aload_n (pc := 8) 0 dX12_counts_8 rfl rfl ?_
    obtain ⟨v4, hv4, h4⟩ := bnd_some h3
    refine rn_getR (pc := 9) (k := 40) okX12 (by decide) tw_1030 rfl dX12_counts_9 hv4 ?_
    refine rn_iload_n (pc := 12) 1 dX12_counts_12 rfl rfl ?_
    refine rn_iload_n (pc := 13) 2 dX12_counts_13 rfl rfl ?_
    obtain ⟨v5, hv5, h5⟩ := bnd_some h4
    refine rn_callS (pc := 14) (n := 2) (As := [.int p1, .int p2]) (rest := [rv v4]) (eX12_pair (d := d + 0) hv5) (by omega) tw_1270 tw_79 tw_1268 tw_1269 (by decide +kernel) rfl (cat_le8 (Nat.le_of_ble_eq_true rfl)) dX12_counts_14 rfl ?_
    obtain ⟨v6, hv6, h6⟩ := bnd_some h5
    refine rn_iald (pc := 17) dX12_counts_17 hv6 ?_
    refine rn_aload_n (pc := 18) 0 dX12_counts_18 rfl rfl ?_
    obtain ⟨v7, hv7, h7⟩ := bnd_some h6
    refine rn_getI (pc := 19) (k := 4) okX12 (by decide) tw_994 rfl dX12_counts_19 hv7 ?_
    rcases if_elim h7 with ⟨c8, h8⟩ | ⟨c8, h8⟩
    · refine rn_ilt_t (pc := 22) (tgt := 29) dX12_counts_22 (by decide) c8 ?_
      refine rn_iconst (pc := 29) (v := 0) dX12_counts_29 (by decide) ?_
      cases h8
      exact rn_zret (pc := 30) (by decide) rfl dX12_counts_30
    · refine rn_ilt_f (pc := 22) 29 dX12_counts_22 (by decide) c8 ?_
      refine rn_iconst (pc := 25) (v := 1) dX12_counts_25 (by decide) ?_
      refine rn_goto (pc := 26) (tgt := 30) dX12_counts_26 (by decide) ?_
      cases h8
      exact rn_zret (pc := 30) (by decide) rfl dX12_counts_30
theorem eX12_counts {l : Launch} {G : Gt} {d : Nat} {t0 : Nat} {p1 : Int32} {p2 : Int32} {u : Mem} {y : Int32} (h : fX12_counts t0 p1 p2 u = some y) : Ex l G iX12_counts (d + 1) [rv (some t0), .int p1, .int p2] u (.returned (some (.int y))) u := Ex.of (by decide +kernel) (by decide) (Nat.le_of_ble_eq_true rfl) rfl (tX12_counts h)
theorem btX12_findCopies_23 {l : Launch} {G : Gt} {d : Nat} {t0 : Nat} {i1 : Int32} {i2 : Int32} {u : Mem} {s3 : Int32} {s4 : Int32} {y : (Int32 × Int32) ⊕ (Int32)} {o : Outcome} {u' : Mem} (h : bX12_findCopies_23 t0 i1 i2 u s3 s4 = some y) (k0 : ∀ s' : Int32 × Int32, y = .inl s' → Rn l G iX12_findCopies d 23 [(0, rv (some t0)), (1, .int i1), (2, .int i2), (3, .int s'.1), (4, .int s'.2)] [] u o u') (k1 : ∀ r : Int32, y = .inr (r) → Rn l G iX12_findCopies d 115 [(0, rv (some t0)), (1, .int i1), (2, .int i2), (3, .int r)] [] u o u') : Rn l G iX12_findCopies d 23 [(0, rv (some t0)), (1, .int i1), (2, .int i2), (3, .int s3), (4, .int s4)] [] u o u' := by
  unfold bX12_findCopies_23 at h
  refine rn_iload (pc := 23) 4 dX12_findCopies_23 rfl ?_
  refine rn_aload_n (pc := 25) 0 dX12_findCopies_25 rfl rfl ?_
  obtain ⟨v4, hv4, h1⟩ := bnd_some h
  refine rn_getI (pc := 26) (k := 26) okX12 (by decide) tw_1016 rfl dX12_findCopies_26 hv4 ?_
  rcases if_elim h1 with ⟨c5, h2⟩ | ⟨c5, h2⟩
  · refine rn_ige_f (pc := 29) 115 dX12_findCopies_29 (by decide) c5 ?_
    refine rn_iload_n (pc := 32) 2 dX12_findCopies_32 rfl rfl ?_
    refine rn_aload_n (pc := 33) 0 dX12_findCopies_33 rfl rfl ?_
    obtain ⟨v6, hv6, h3⟩ := bnd_some h2
    refine rn_getR (pc := 34) (k := 32) okX12 (by decide) tw_1022 rfl dX12_findCopies_34 hv6 ?_
    refine rn_iload_n (pc := 37) 1 dX12_findCopies_37 rfl rfl ?_
    obtain ⟨v7, hv7, h4⟩ := bnd_some h3
    refine rn_iald (pc := 38) dX12_findCopies_38 hv7 ?_
    rcases if_elim h4 with ⟨c8, h5⟩ | ⟨c8, h5⟩
    · refine rn_ieq_t (pc := 39) (tgt := 115) dX12_findCopies_39 (by decide) c8 ?_
      cases h5
      exact rn_sub [0, 1, 2, 3] rfl (k1 _ rfl)
    · refine rn_ieq_f (pc := 39) 115 dX12_findCopies_39 (by decide) c8 ?_
      refine rn_aload_n (pc := 42) 0 dX12_findCopies_42 rfl rfl ?_
      obtain ⟨v9, hv9, h6⟩ := bnd_some h5
      refine rn_getR (pc := 43) (k := 32) okX12 (by decide) tw_1022 rfl dX12_findCopies_43 hv9 ?_
      refine rn_iload (pc := 46) 4 dX12_findCopies_46 rfl ?_
      obtain ⟨v10, hv10, h7⟩ := bnd_some h6
      refine rn_iald (pc := 48) dX12_findCopies_48 hv10 ?_
      refine rn_iload_n (pc := 49) 2 dX12_findCopies_49 rfl rfl ?_
      rcases if_elim h7 with ⟨c11, h8⟩ | ⟨c11, h8⟩
      · refine rn_ine_f (pc := 50) 109 dX12_findCopies_50 (by decide) c11 ?_
        refine rn_aload_n (pc := 53) 0 dX12_findCopies_53 rfl rfl ?_
        obtain ⟨v12, hv12, h9⟩ := bnd_some h8
        refine rn_getR (pc := 54) (k := 33) okX12 (by decide) tw_1023 rfl dX12_findCopies_54 hv12 ?_
        refine rn_iload (pc := 57) 4 dX12_findCopies_57 rfl ?_
        obtain ⟨v13, hv13, h10⟩ := bnd_some h9
        refine rn_iald (pc := 59) dX12_findCopies_59 hv13 ?_
        refine rn_aload_n (pc := 60) 0 dX12_findCopies_60 rfl rfl ?_
        obtain ⟨v14, hv14, h11⟩ := bnd_some h10
        refine rn_getR (pc := 61) (k := 33) okX12 (by decide) tw_1023 rfl dX12_findCopies_61 hv14 ?_
        refine rn_iload_n (pc := 64) 1 dX12_findCopies_64 rfl rfl ?_
        obtain ⟨v15, hv15, h12⟩ := bnd_some h11
        refine rn_iald (pc := 65) dX12_findCopies_65 hv15 ?_
        rcases if_elim h12 with ⟨c16, h13⟩ | ⟨c16, h13⟩
        · refine rn_ine_f (pc := 66) 109 dX12_findCopies_66 (by decide) c16 ?_
          refine rn_aload_n (pc := 69) 0 dX12_findCopies_69 rfl rfl ?_
          obtain ⟨v17, hv17, h14⟩ := bnd_some h13
          refine rn_getR (pc := 70) (k := 34) okX12 (by decide) tw_1024 rfl dX12_findCopies_70 hv17 ?_
          refine rn_iload (pc := 73) 4 dX12_findCopies_73 rfl ?_
          obtain ⟨v18, hv18, h15⟩ := bnd_some h14
          refine rn_iald (pc := 75) dX12_findCopies_75 hv18 ?_
          refine rn_aload_n (pc := 76) 0 dX12_findCopies_76 rfl rfl ?_
          obtain ⟨v19, hv19, h16⟩ := bnd_some h15
          refine rn_getR (pc := 77) (k := 34) okX12 (by decide) tw_1024 rfl dX12_findCopies_77 hv19 ?_
          refine rn_iload_n (pc := 80) 1 dX12_findCopies_80 rfl rfl ?_
          obtain ⟨v20, hv20, h17⟩ := bnd_some h16
          refine rn_iald (pc := 81) dX12_findCopies_81 hv20 ?_
          rcases if_elim h17 with ⟨c21, h18⟩ | ⟨c21, h18⟩
          · refine rn_ige_f (pc := 82) 109 dX12_findCopies_82 (by decide) c21 ?_
            refine rn_iload_n (pc := 85) 3 dX12_findCopies_85 rfl rfl ?_
            refine rn_iconst (pc := 86) (v := -1) dX12_findCopies_86 (by decide) ?_
            rcases if_elim h18 with ⟨c22, h19⟩ | ⟨c22, h19⟩
            · refine rn_ieq_t (pc := 87) (tgt := 106) dX12_findCopies_87 (by decide) c22 ?_
              refine rn_iload (pc := 106) 4 dX12_findCopies_106 rfl ?_
              refine rn_istore_n (pc := 108) (lv' := [(3, .int s4), (0, rv (some t0)), (1, .int i1), (2, .int i2), (4, .int s4)]) dX12_findCopies_108 rfl (by decide) rfl ?_
              obtain ⟨x23, ex23, h20⟩ := nm_elim h19
              refine rn_iinc (pc := 109) (v := x23) (lv' := [(4, .int x23), (3, .int s4), (0, rv (some t0)), (1, .int i1), (2, .int i2)]) 4 dX12_findCopies_109 rfl (by rw [ex23]; rfl) (by decide) rfl ?_
              refine rn_goto (pc := 112) (tgt := 23) dX12_findCopies_112 (by decide) ?_
              cases h20
              exact rn_sub [2, 3, 4, 1, 0] rfl (k0 _ rfl)
            · refine rn_ieq_f (pc := 87) 106 dX12_findCopies_87 (by decide) c22 ?_
              refine rn_aload_n (pc := 90) 0 dX12_findCopies_90 rfl rfl ?_
              obtain ⟨v24, hv24, h21⟩ := bnd_some h19
              refine rn_getR (pc := 91) (k := 34) okX12 (by decide) tw_1024 rfl dX12_findCopies_91 hv24 ?_
              refine rn_iload (pc := 94) 4 dX12_findCopies_94 rfl ?_
              obtain ⟨v25, hv25, h22⟩ := bnd_some h21
              refine rn_iald (pc := 96) dX12_findCopies_96 hv25 ?_
              refine rn_aload_n (pc := 97) 0 dX12_findCopies_97 rfl rfl ?_
              obtain ⟨v26, hv26, h23⟩ := bnd_some h22
              refine rn_getR (pc := 98) (k := 34) okX12 (by decide) tw_1024 rfl dX12_findCopies_98 hv26 ?_
              refine rn_iload_n (pc := 101) 3 dX12_findCopies_101 rfl rfl ?_
              obtain ⟨v27, hv27, h24⟩ := bnd_some h23
              refine rn_iald (pc := 102) dX12_findCopies_102 hv27 ?_
              rcases if_elim h24 with ⟨c28, h25⟩ | ⟨c28, h25⟩
              · refine rn_ilt_t (pc := 103) (tgt := 109) dX12_findCopies_103 (by decide) c28 ?_
                obtain ⟨x29, ex29, h26⟩ := nm_elim h25
                refine rn_iinc (pc := 109) (v := x29) (lv' := [(4, .int x29), (0, rv (some t0)), (1, .int i1), (2, .int i2), (3, .int s3)]) 4 dX12_findCopies_109 rfl (by rw [ex29]; rfl) (by decide) rfl ?_
                refine rn_goto (pc := 112) (tgt := 23) dX12_findCopies_112 (by decide) ?_
                cases h26
                exact rn_sub [1, 2, 3, 4, 0] rfl (k0 _ rfl)
              · refine rn_ilt_f (pc := 103) 109 dX12_findCopies_103 (by decide) c28 ?_
                refine rn_iload (pc := 106) 4 dX12_findCopies_106 rfl ?_
                refine rn_istore_n (pc := 108) (lv' := [(3, .int s4), (0, rv (some t0)), (1, .int i1), (2, .int i2), (4, .int s4)]) dX12_findCopies_108 rfl (by decide) rfl ?_
                obtain ⟨x30, ex30, h27⟩ := nm_elim h25
                refine rn_iinc (pc := 109) (v := x30) (lv' := [(4, .int x30), (3, .int s4), (0, rv (some t0)), (1, .int i1), (2, .int i2)]) 4 dX12_findCopies_109 rfl (by rw [ex30]; rfl) (by decide) rfl ?_
                refine rn_goto (pc := 112) (tgt := 23) dX12_findCopies_112 (by decide) ?_
                cases h27
                exact rn_sub [2, 3, 4, 1, 0] rfl (k0 _ rfl)
          · refine rn_ige_t (pc := 82) (tgt := 109) dX12_findCopies_82 (by decide) c21 ?_
            obtain ⟨x31, ex31, h28⟩ := nm_elim h18
            refine rn_iinc (pc := 109) (v := x31) (lv' := [(4, .int x31), (0, rv (some t0)), (1, .int i1), (2, .int i2), (3, .int s3)]) 4 dX12_findCopies_109 rfl (by rw [ex31]; rfl) (by decide) rfl ?_
            refine rn_goto (pc := 112) (tgt := 23) dX12_findCopies_112 (by decide) ?_
            cases h28
            exact rn_sub [1, 2, 3, 4, 0] rfl (k0 _ rfl)
        · refine rn_ine_t (pc := 66) (tgt := 109) dX12_findCopies_66 (by decide) c16 ?_
          obtain ⟨x32, ex32, h29⟩ := nm_elim h13
          refine rn_iinc (pc := 109) (v := x32) (lv' := [(4, .int x32), (0, rv (some t0)), (1, .int i1), (2, .int i2), (3, .int s3)]) 4 dX12_findCopies_109 rfl (by rw [ex32]; rfl) (by decide) rfl ?_
          refine rn_goto (pc := 112) (tgt := 23) dX12_findCopies_112 (by decide) ?_
          cases h29
          exact rn_sub [1, 2, 3, 4, 0] rfl (k0 _ rfl)
      · refine rn_ine_t (pc := 50) (tgt := 109) dX12_findCopies_50 (by decide) c11 ?_
        obtain ⟨x33, ex33, h30⟩ := nm_elim h8
        refine rn_iinc (pc := 109) (v := x33) (lv' := [(4, .int x33), (0, rv (some t0)), (1, .int i1), (2, .int i2), (3, .int s3)]) 4 dX12_findCopies_109 rfl (by rw [ex33]; rfl) (by decide) rfl ?_
        refine rn_goto (pc := 112) (tgt := 23) dX12_findCopies_112 (by decide) ?_
        cases h30
        exact rn_sub [1, 2, 3, 4, 0] rfl (k0 _ rfl)
  · refine rn_ige_t (pc := 29) (tgt := 115) dX12_findCopies_29 (by decide) c5 ?_
    cases h2
    exact rn_sub [0, 1, 2, 3] rfl (k1 _ rfl)
theorem lX12_findCopies_23 {l : Launch} {G : Gt} {d : Nat} {t0 : Nat} {i1 : Int32} {i2 : Int32} {u : Mem} {N : Nat} {s0 : Int32 × Int32} {r : Int32} {o : Outcome} {u' : Mem} (h : lp (fun s : Int32 × Int32 => bX12_findCopies_23 t0 i1 i2 u s.1 s.2) N s0 = some r) (k1 : Rn l G iX12_findCopies d 115 [(0, rv (some t0)), (1, .int i1), (2, .int i2), (3, .int r)] [] u o u') : Rn l G iX12_findCopies d 23 [(0, rv (some t0)), (1, .int i1), (2, .int i2), (3, .int s0.1), (4, .int s0.2)] [] u o u' :=
  lp_run (P := fun s : Int32 × Int32 => Rn l G iX12_findCopies d 23 [(0, rv (some t0)), (1, .int i1), (2, .int i2), (3, .int s.1), (4, .int s.2)] [] u o u') (E := fun r => Rn l G iX12_findCopies d 115 [(0, rv (some t0)), (1, .int i1), (2, .int i2), (3, .int r)] [] u o u') (fun s y hy k0 kE => btX12_findCopies_23 hy (fun s' e => k0 s' e) (fun r e => kE r e)) N s0 r h k1
theorem jtX12_findCopies_12_115 {l : Launch} {G : Gt} {d : Nat} {t0 : Nat} {i1 : Int32} {p2 : Int32} {p3 : Int32} {u : Mem}  {y : (Int32 × Mem) ⊕ (Mem)} {o : Outcome} {u' : Mem} (h : jX12_findCopies_12_115 t0 i1 p2 p3 u = some y) (k0 : ∀ s' : Int32 × Mem, y = .inl s' → Rn l G iX12_findCopies d 12 [(0, rv (some t0)), (1, .int i1), (2, .int s'.1)] [] s'.2 o u') (k1 : ∀ r : Mem, y = .inr (r) → Rn l G iX12_findCopies d 177 [(0, rv (some t0)), (1, .int i1)] [] r o u') : Rn l G iX12_findCopies d 115 [(0, rv (some t0)), (1, .int i1), (2, .int p2), (3, .int p3)] [] u o u' := by
  unfold jX12_findCopies_12_115 at h
  refine rn_aload_n (pc := 115) 0 dX12_findCopies_115 rfl rfl ?_
  obtain ⟨v35, hv35, h1⟩ := bnd_some h
  refine rn_getR (pc := 116) (k := 44) okX12 (by decide) tw_1034 rfl dX12_findCopies_116 hv35 ?_
  refine rn_bipush (pc := 119) (v := 20) dX12_findCopies_119 (by decide) ?_
  refine rn_iload_n (pc := 121) 1 dX12_findCopies_121 rfl rfl ?_
  refine rn_imul (pc := 122) dX12_findCopies_122 ?_
  refine rn_iload_n (pc := 123) 2 dX12_findCopies_123 rfl rfl ?_
  refine rn_iadd (pc := 124) dX12_findCopies_124 ?_
  refine rn_iload_n (pc := 125) 3 dX12_findCopies_125 rfl rfl ?_
  refine rn_iconst (pc := 126) (v := -1) dX12_findCopies_126 (by decide) ?_
  rcases if_elim h1 with ⟨c36, h2⟩ | ⟨c36, h2⟩
  · refine rn_ieq_t (pc := 127) (tgt := 169) dX12_findCopies_127 (by decide) c36 ?_
    refine rn_iconst (pc := 169) (v := 0) dX12_findCopies_169 (by decide) ?_
    obtain ⟨u37, hu37, h3⟩ := bnd_some h2
    refine rn_zast (pc := 170) dX12_findCopies_170 hu37 ?_
    obtain ⟨x38, ex38, h4⟩ := nm_elim h3
    refine rn_iinc (pc := 171) (v := x38) (lv' := [(2, .int x38), (0, rv (some t0)), (1, .int i1), (3, .int p3)]) 2 dX12_findCopies_171 rfl (by rw [ex38]; rfl) (by decide) rfl ?_
    refine rn_goto (pc := 174) (tgt := 12) dX12_findCopies_174 (by decide) ?_
    cases h4
    exact rn_sub [1, 2, 0] rfl (k0 _ rfl)
  · refine rn_ieq_f (pc := 127) 169 dX12_findCopies_127 (by decide) c36 ?_
    refine rn_aload_n (pc := 130) 0 dX12_findCopies_130 rfl rfl ?_
    obtain ⟨v39, hv39, h5⟩ := bnd_some h2
    refine rn_getR (pc := 131) (k := 35) okX12 (by decide) tw_1025 rfl dX12_findCopies_131 hv39 ?_
    refine rn_iload_n (pc := 134) 3 dX12_findCopies_134 rfl rfl ?_
    obtain ⟨v40, hv40, h6⟩ := bnd_some h5
    refine rn_iald (pc := 135) dX12_findCopies_135 hv40 ?_
    refine rn_aload_n (pc := 136) 0 dX12_findCopies_136 rfl rfl ?_
    obtain ⟨v41, hv41, h7⟩ := bnd_some h6
    refine rn_getR (pc := 137) (k := 35) okX12 (by decide) tw_1025 rfl dX12_findCopies_137 hv41 ?_
    refine rn_iload_n (pc := 140) 1 dX12_findCopies_140 rfl rfl ?_
    obtain ⟨v42, hv42, h8⟩ := bnd_some h7
    refine rn_iald (pc := 141) dX12_findCopies_141 hv42 ?_
    rcases if_elim h8 with ⟨c43, h9⟩ | ⟨c43, h9⟩
    · refine rn_ine_f (pc := 142) 169 dX12_findCopies_142 (by decide) c43 ?_
      refine rn_aload_n (pc := 145) 0 dX12_findCopies_145 rfl rfl ?_
      obtain ⟨v44, hv44, h10⟩ := bnd_some h9
      refine rn_getR (pc := 146) (k := 34) okX12 (by decide) tw_1024 rfl dX12_findCopies_146 hv44 ?_
      refine rn_iload_n (pc := 149) 1 dX12_findCopies_149 rfl rfl ?_
      obtain ⟨v45, hv45, h11⟩ := bnd_some h10
      refine rn_iald (pc := 150) dX12_findCopies_150 hv45 ?_
      refine rn_aload_n (pc := 151) 0 dX12_findCopies_151 rfl rfl ?_
      obtain ⟨v46, hv46, h12⟩ := bnd_some h11
      refine rn_getR (pc := 152) (k := 34) okX12 (by decide) tw_1024 rfl dX12_findCopies_152 hv46 ?_
      refine rn_iload_n (pc := 155) 3 dX12_findCopies_155 rfl rfl ?_
      obtain ⟨v47, hv47, h13⟩ := bnd_some h12
      refine rn_iald (pc := 156) dX12_findCopies_156 hv47 ?_
      refine rn_isub (pc := 157) dX12_findCopies_157 ?_
      refine rn_aload_n (pc := 158) 0 dX12_findCopies_158 rfl rfl ?_
      obtain ⟨v48, hv48, h14⟩ := bnd_some h13
      refine rn_getI (pc := 159) (k := 2) okX12 (by decide) tw_992 rfl dX12_findCopies_159 hv48 ?_
      rcases if_elim h14 with ⟨c49, h15⟩ | ⟨c49, h15⟩
      · refine rn_igt_t (pc := 162) (tgt := 169) dX12_findCopies_162 (by decide) c49 ?_
        refine rn_iconst (pc := 169) (v := 0) dX12_findCopies_169 (by decide) ?_
        obtain ⟨u50, hu50, h16⟩ := bnd_some h15
        refine rn_zast (pc := 170) dX12_findCopies_170 hu50 ?_
        obtain ⟨x51, ex51, h17⟩ := nm_elim h16
        refine rn_iinc (pc := 171) (v := x51) (lv' := [(2, .int x51), (0, rv (some t0)), (1, .int i1), (3, .int p3)]) 2 dX12_findCopies_171 rfl (by rw [ex51]; rfl) (by decide) rfl ?_
        refine rn_goto (pc := 174) (tgt := 12) dX12_findCopies_174 (by decide) ?_
        cases h17
        exact rn_sub [1, 2, 0] rfl (k0 _ rfl)
      · refine rn_igt_f (pc := 162) 169 dX12_findCopies_162 (by decide) c49 ?_
        refine rn_iconst (pc := 165) (v := 1) dX12_findCopies_165 (by decide) ?_
        refine rn_goto (pc := 166) (tgt := 170) dX12_findCopies_166 (by decide) ?_
        obtain ⟨u52, hu52, h18⟩ := bnd_some h15
        refine rn_zast (pc := 170) dX12_findCopies_170 hu52 ?_
        obtain ⟨x53, ex53, h19⟩ := nm_elim h18
        refine rn_iinc (pc := 171) (v := x53) (lv' := [(2, .int x53), (0, rv (some t0)), (1, .int i1), (3, .int p3)]) 2 dX12_findCopies_171 rfl (by rw [ex53]; rfl) (by decide) rfl ?_
        refine rn_goto (pc := 174) (tgt := 12) dX12_findCopies_174 (by decide) ?_
        cases h19
        exact rn_sub [1, 2, 0] rfl (k0 _ rfl)
    · refine rn_ine_t (pc := 142) (tgt := 169) dX12_findCopies_142 (by decide) c43 ?_
      refine rn_iconst (pc := 169) (v := 0) dX12_findCopies_169 (by decide) ?_
      obtain ⟨u54, hu54, h20⟩ := bnd_some h9
      refine rn_zast (pc := 170) dX12_findCopies_170 hu54 ?_
      obtain ⟨x55, ex55, h21⟩ := nm_elim h20
      refine rn_iinc (pc := 171) (v := x55) (lv' := [(2, .int x55), (0, rv (some t0)), (1, .int i1), (3, .int p3)]) 2 dX12_findCopies_171 rfl (by rw [ex55]; rfl) (by decide) rfl ?_
      refine rn_goto (pc := 174) (tgt := 12) dX12_findCopies_174 (by decide) ?_
      cases h21
      exact rn_sub [1, 2, 0] rfl (k0 _ rfl)
theorem btX12_findCopies_12 {l : Launch} {G : Gt} {d : Nat} {t0 : Nat} {i1 : Int32} {s2 : Int32} {u : Mem} {y : (Int32 × Mem) ⊕ (Mem)} {o : Outcome} {u' : Mem} (h : bX12_findCopies_12 t0 i1 s2 u = some y) (k0 : ∀ s' : Int32 × Mem, y = .inl s' → Rn l G iX12_findCopies d 12 [(0, rv (some t0)), (1, .int i1), (2, .int s'.1)] [] s'.2 o u') (k1 : ∀ r : Mem, y = .inr (r) → Rn l G iX12_findCopies d 177 [(0, rv (some t0)), (1, .int i1)] [] r o u') : Rn l G iX12_findCopies d 12 [(0, rv (some t0)), (1, .int i1), (2, .int s2)] [] u o u' := by
  unfold bX12_findCopies_12 at h
  refine rn_iload_n (pc := 12) 2 dX12_findCopies_12 rfl rfl ?_
  refine rn_bipush (pc := 13) (v := 20) dX12_findCopies_13 (by decide) ?_
  rcases if_elim h with ⟨c3, h1⟩ | ⟨c3, h1⟩
  · refine rn_ige_f (pc := 15) 177 dX12_findCopies_15 (by decide) c3 ?_
    refine rn_iconst (pc := 18) (v := -1) dX12_findCopies_18 (by decide) ?_
    refine rn_istore_n (pc := 19) (lv' := [(3, .int (-1 : Int32)), (0, rv (some t0)), (1, .int i1), (2, .int s2)]) dX12_findCopies_19 rfl (by decide) rfl ?_
    refine rn_iconst (pc := 20) (v := 0) dX12_findCopies_20 (by decide) ?_
    refine rn_istore (pc := 21) (lv' := [(4, .int (0 : Int32)), (3, .int (-1 : Int32)), (0, rv (some t0)), (1, .int i1), (2, .int s2)]) dX12_findCopies_21 (by decide) rfl ?_
    obtain ⟨r34, hr34, h2⟩ := bnd_some h1
    refine rn_sub [2, 3, 4, 1, 0] rfl (lX12_findCopies_23 hr34 ?_)
    exact rn_sub [0, 1, 2, 3] rfl (jtX12_findCopies_12_115 h2 k0 k1)
  · refine rn_ige_t (pc := 15) (tgt := 177) dX12_findCopies_15 (by decide) c3 ?_
    cases h1
    exact rn_sub [0, 1] rfl (k1 _ rfl)
theorem lX12_findCopies_12 {l : Launch} {G : Gt} {d : Nat} {t0 : Nat} {i1 : Int32} {N : Nat} {s0 : Int32 × Mem} {r : Mem} {o : Outcome} {u' : Mem} (h : lp (fun s : Int32 × Mem => bX12_findCopies_12 t0 i1 s.1 s.2) N s0 = some r) (k1 : Rn l G iX12_findCopies d 177 [(0, rv (some t0)), (1, .int i1)] [] r o u') : Rn l G iX12_findCopies d 12 [(0, rv (some t0)), (1, .int i1), (2, .int s0.1)] [] s0.2 o u' :=
  lp_run (P := fun s : Int32 × Mem => Rn l G iX12_findCopies d 12 [(0, rv (some t0)), (1, .int i1), (2, .int s.1)] [] s.2 o u') (E := fun r => Rn l G iX12_findCopies d 177 [(0, rv (some t0)), (1, .int i1)] [] r o u') (fun s y hy k0 kE => btX12_findCopies_12 hy (fun s' e => k0 s' e) (fun r e => kE r e)) N s0 r h k1
theorem btX12_findCopies_2 {l : Launch} {G : Gt} {d : Nat} {t0 : Nat} {s1 : Int32} {u : Mem} {y : (Int32 × Mem) ⊕ (Mem)} {o : Outcome} {u' : Mem} (h : bX12_findCopies_2 t0 s1 u = some y) (k0 : ∀ s' : Int32 × Mem, y = .inl s' → Rn l G iX12_findCopies d 2 [(0, rv (some t0)), (1, .int s'.1)] [] s'.2 o u') (k1 : ∀ r : Mem, y = .inr (r) → Rn l G iX12_findCopies d 183 [] [] r o u') : Rn l G iX12_findCopies d 2 [(0, rv (some t0)), (1, .int s1)] [] u o u' := by
  unfold bX12_findCopies_2 at h
  refine rn_iload_n (pc := 2) 1 dX12_findCopies_2 rfl rfl ?_
  refine rn_aload_n (pc := 3) 0 dX12_findCopies_3 rfl rfl ?_
  obtain ⟨v1, hv1, h1⟩ := bnd_some h
  refine rn_getI (pc := 4) (k := 26) okX12 (by decide) tw_1016 rfl dX12_findCopies_4 hv1 ?_
  rcases if_elim h1 with ⟨c2, h2⟩ | ⟨c2, h2⟩
  · refine rn_ige_f (pc := 7) 183 dX12_findCopies_7 (by decide) c2 ?_
    refine rn_iconst (pc := 10) (v := 0) dX12_findCopies_10 (by decide) ?_
    refine rn_istore_n (pc := 11) (lv' := [(2, .int (0 : Int32)), (0, rv (some t0)), (1, .int s1)]) dX12_findCopies_11 rfl (by decide) rfl ?_
    obtain ⟨r56, hr56, h3⟩ := bnd_some h2
    refine rn_sub [1, 2, 0] rfl (lX12_findCopies_12 hr56 ?_)
    obtain ⟨x57, ex57, h4⟩ := nm_elim h3
    refine rn_iinc (pc := 177) (v := x57) (lv' := [(1, .int x57), (0, rv (some t0))]) 1 dX12_findCopies_177 rfl (by rw [ex57]; rfl) (by decide) rfl ?_
    refine rn_goto (pc := 180) (tgt := 2) dX12_findCopies_180 (by decide) ?_
    cases h4
    exact rn_sub [1, 0] rfl (k0 _ rfl)
  · refine rn_ige_t (pc := 7) (tgt := 183) dX12_findCopies_7 (by decide) c2 ?_
    cases h2
    exact rn_sub [] rfl (k1 _ rfl)
theorem lX12_findCopies_2 {l : Launch} {G : Gt} {d : Nat} {t0 : Nat} {N : Nat} {s0 : Int32 × Mem} {r : Mem} {o : Outcome} {u' : Mem} (h : lp (fun s : Int32 × Mem => bX12_findCopies_2 t0 s.1 s.2) N s0 = some r) (k1 : Rn l G iX12_findCopies d 183 [] [] r o u') : Rn l G iX12_findCopies d 2 [(0, rv (some t0)), (1, .int s0.1)] [] s0.2 o u' :=
  lp_run (P := fun s : Int32 × Mem => Rn l G iX12_findCopies d 2 [(0, rv (some t0)), (1, .int s.1)] [] s.2 o u') (E := fun r => Rn l G iX12_findCopies d 183 [] [] r o u') (fun s y hy k0 kE => btX12_findCopies_2 hy (fun s' e => k0 s' e) (fun r e => kE r e)) N s0 r h k1
theorem tX12_findCopies {l : Launch} {G : Gt} {d : Nat} {t0 : Nat} {u : Mem} {y : Mem} (h : fX12_findCopies t0 u = some y) : Rn l G iX12_findCopies d 0 [(0, rv (some t0))] [] u (.returned none) y := by
  unfold fX12_findCopies at h
  refine rn_iconst (pc := 0) (v := 0) dX12_findCopies_0 (by decide) ?_
  refine rn_istore_n (pc := 1) (lv' := [(1, .int (0 : Int32)), (0, rv (some t0))]) dX12_findCopies_1 rfl (by decide) rfl ?_
  obtain ⟨r58, hr58, h1⟩ := bnd_some h
  refine rn_sub [1, 0] rfl (lX12_findCopies_2 hr58 ?_)
  cases h1
  exact rn_vret (pc := 183) rfl dX12_findCopies_183
theorem eX12_findCopies {l : Launch} {G : Gt} {d : Nat} {t0 : Nat} {u : Mem} {y : Mem} (h : fX12_findCopies t0 u = some y) : Ex l G iX12_findCopies d [rv (some t0)] u (.returned none) y := Ex.of (by decide +kernel) (by decide) (Nat.le_of_ble_eq_true rfl) rfl (tX12_findCopies h)
theorem btX12_copiesOf_6 {l : Launch} {G : Gt} {d : Nat} {t0 : Nat} {i1 : Int32} {i2 : Int32} {i3 : Int32} {u : Mem} {s4 : Int32} {s5 : Int32} {y : (Int32 × Int32) ⊕ (Int32)} {o : Outcome} {u' : Mem} (h : bX12_copiesOf_6 t0 i1 i2 i3 u s4 s5 = some y) (k0 : ∀ s' : Int32 × Int32, y = .inl s' → Rn l G iX12_copiesOf d 6 [(0, rv (some t0)), (1, .int i1), (2, .int i2), (3, .int i3), (4, .int s'.1), (5, .int s'.2)] [] u o u') (k1 : ∀ r : Int32, y = .inr (r) → Rn l G iX12_copiesOf d 68 [(4, .int r)] [] u o u') : Rn l G iX12_copiesOf d 6 [(0, rv (some t0)), (1, .int i1), (2, .int i2), (3, .int i3), (4, .int s4), (5, .int s5)] [] u o u' := by
  unfold bX12_copiesOf_6 at h
  refine rn_iload (pc := 6) 5 dX12_copiesOf_6 rfl ?_
  refine rn_aload_n (pc := 8) 0 dX12_copiesOf_8 rfl rfl ?_
  obtain ⟨v1, hv1, h1⟩ := bnd_some h
  refine rn_getI (pc := 9) (k := 26) okX12 (by decide) tw_1016 rfl dX12_copiesOf_9 hv1 ?_
  rcases if_elim h1 with ⟨c2, h2⟩ | ⟨c2, h2⟩
  · refine rn_ige_f (pc := 12) 68 dX12_copiesOf_12 (by decide) c2 ?_
    refine rn_iload (pc := 15) 4 dX12_copiesOf_15 rfl ?_
    refine rn_aload_n (pc := 17) 0 dX12_copiesOf_17 rfl rfl ?_
    obtain ⟨v3, hv3, h3⟩ := bnd_some h2
    refine rn_getR (pc := 18) (k := 32) okX12 (by decide) tw_1022 rfl dX12_copiesOf_18 hv3 ?_
    refine rn_iload (pc := 21) 5 dX12_copiesOf_21 rfl ?_
    obtain ⟨v4, hv4, h4⟩ := bnd_some h3
    refine rn_iald (pc := 23) dX12_copiesOf_23 hv4 ?_
    refine rn_iload_n (pc := 24) 1 dX12_copiesOf_24 rfl rfl ?_
    rcases if_elim h4 with ⟨c5, h5⟩ | ⟨c5, h5⟩
    · refine rn_ine_f (pc := 25) 58 dX12_copiesOf_25 (by decide) c5 ?_
      refine rn_aload_n (pc := 28) 0 dX12_copiesOf_28 rfl rfl ?_
      obtain ⟨v6, hv6, h6⟩ := bnd_some h5
      refine rn_getR (pc := 29) (k := 34) okX12 (by decide) tw_1024 rfl dX12_copiesOf_29 hv6 ?_
      refine rn_iload (pc := 32) 5 dX12_copiesOf_32 rfl ?_
      obtain ⟨v7, hv7, h7⟩ := bnd_some h6
      refine rn_iald (pc := 34) dX12_copiesOf_34 hv7 ?_
      refine rn_iload_n (pc := 35) 3 dX12_copiesOf_35 rfl rfl ?_
      rcases if_elim h7 with ⟨c8, h8⟩ | ⟨c8, h8⟩
      · refine rn_igt_t (pc := 36) (tgt := 58) dX12_copiesOf_36 (by decide) c8 ?_
        refine rn_iconst (pc := 58) (v := 0) dX12_copiesOf_58 (by decide) ?_
        refine rn_iadd (pc := 59) dX12_copiesOf_59 ?_
        obtain ⟨x9, ex9, h9⟩ := nm_elim h8
        refine rn_topi ex9 ?_
        refine rn_istore (pc := 60) (lv' := [(4, .int x9), (0, rv (some t0)), (1, .int i1), (2, .int i2), (3, .int i3), (5, .int s5)]) dX12_copiesOf_60 (by decide) rfl ?_
        obtain ⟨x10, ex10, h10⟩ := nm_elim h9
        refine rn_iinc (pc := 62) (v := x10) (lv' := [(5, .int x10), (4, .int x9), (0, rv (some t0)), (1, .int i1), (2, .int i2), (3, .int i3)]) 5 dX12_copiesOf_62 rfl (by rw [ex10]; rfl) (by decide) rfl ?_
        refine rn_goto (pc := 65) (tgt := 6) dX12_copiesOf_65 (by decide) ?_
        cases h10
        exact rn_sub [2, 3, 4, 5, 1, 0] rfl (k0 _ rfl)
      · refine rn_igt_f (pc := 36) 58 dX12_copiesOf_36 (by decide) c8 ?_
        refine rn_aload_n (pc := 39) 0 dX12_copiesOf_39 rfl rfl ?_
        obtain ⟨v11, hv11, h11⟩ := bnd_some h8
        refine rn_getR (pc := 40) (k := 44) okX12 (by decide) tw_1034 rfl dX12_copiesOf_40 hv11 ?_
        refine rn_bipush (pc := 43) (v := 20) dX12_copiesOf_43 (by decide) ?_
        refine rn_iload (pc := 45) 5 dX12_copiesOf_45 rfl ?_
        refine rn_imul (pc := 47) dX12_copiesOf_47 ?_
        refine rn_iload_n (pc := 48) 2 dX12_copiesOf_48 rfl rfl ?_
        refine rn_iadd (pc := 49) dX12_copiesOf_49 ?_
        obtain ⟨v12, hv12, h12⟩ := bnd_some h11
        refine rn_zald (pc := 50) dX12_copiesOf_50 hv12 ?_
        rcases if_elim h12 with ⟨c13, h13⟩ | ⟨c13, h13⟩
        · refine rn_zeq_t (pc := 51) (tgt := 58) dX12_copiesOf_51 (by decide) c13 ?_
          refine rn_iconst (pc := 58) (v := 0) dX12_copiesOf_58 (by decide) ?_
          refine rn_iadd (pc := 59) dX12_copiesOf_59 ?_
          obtain ⟨x14, ex14, h14⟩ := nm_elim h13
          refine rn_topi ex14 ?_
          refine rn_istore (pc := 60) (lv' := [(4, .int x14), (0, rv (some t0)), (1, .int i1), (2, .int i2), (3, .int i3), (5, .int s5)]) dX12_copiesOf_60 (by decide) rfl ?_
          obtain ⟨x15, ex15, h15⟩ := nm_elim h14
          refine rn_iinc (pc := 62) (v := x15) (lv' := [(5, .int x15), (4, .int x14), (0, rv (some t0)), (1, .int i1), (2, .int i2), (3, .int i3)]) 5 dX12_copiesOf_62 rfl (by rw [ex15]; rfl) (by decide) rfl ?_
          refine rn_goto (pc := 65) (tgt := 6) dX12_copiesOf_65 (by decide) ?_
          cases h15
          exact rn_sub [2, 3, 4, 5, 1, 0] rfl (k0 _ rfl)
        · refine rn_zeq_f (pc := 51) 58 dX12_copiesOf_51 (by decide) c13 ?_
          refine rn_iconst (pc := 54) (v := 1) dX12_copiesOf_54 (by decide) ?_
          refine rn_goto (pc := 55) (tgt := 59) dX12_copiesOf_55 (by decide) ?_
          refine rn_iadd (pc := 59) dX12_copiesOf_59 ?_
          obtain ⟨x16, ex16, h16⟩ := nm_elim h13
          refine rn_topi ex16 ?_
          refine rn_istore (pc := 60) (lv' := [(4, .int x16), (0, rv (some t0)), (1, .int i1), (2, .int i2), (3, .int i3), (5, .int s5)]) dX12_copiesOf_60 (by decide) rfl ?_
          obtain ⟨x17, ex17, h17⟩ := nm_elim h16
          refine rn_iinc (pc := 62) (v := x17) (lv' := [(5, .int x17), (4, .int x16), (0, rv (some t0)), (1, .int i1), (2, .int i2), (3, .int i3)]) 5 dX12_copiesOf_62 rfl (by rw [ex17]; rfl) (by decide) rfl ?_
          refine rn_goto (pc := 65) (tgt := 6) dX12_copiesOf_65 (by decide) ?_
          cases h17
          exact rn_sub [2, 3, 4, 5, 1, 0] rfl (k0 _ rfl)
    · refine rn_ine_t (pc := 25) (tgt := 58) dX12_copiesOf_25 (by decide) c5 ?_
      refine rn_iconst (pc := 58) (v := 0) dX12_copiesOf_58 (by decide) ?_
      refine rn_iadd (pc := 59) dX12_copiesOf_59 ?_
      obtain ⟨x18, ex18, h18⟩ := nm_elim h5
      refine rn_topi ex18 ?_
      refine rn_istore (pc := 60) (lv' := [(4, .int x18), (0, rv (some t0)), (1, .int i1), (2, .int i2), (3, .int i3), (5, .int s5)]) dX12_copiesOf_60 (by decide) rfl ?_
      obtain ⟨x19, ex19, h19⟩ := nm_elim h18
      refine rn_iinc (pc := 62) (v := x19) (lv' := [(5, .int x19), (4, .int x18), (0, rv (some t0)), (1, .int i1), (2, .int i2), (3, .int i3)]) 5 dX12_copiesOf_62 rfl (by rw [ex19]; rfl) (by decide) rfl ?_
      refine rn_goto (pc := 65) (tgt := 6) dX12_copiesOf_65 (by decide) ?_
      cases h19
      exact rn_sub [2, 3, 4, 5, 1, 0] rfl (k0 _ rfl)
  · refine rn_ige_t (pc := 12) (tgt := 68) dX12_copiesOf_12 (by decide) c2 ?_
    cases h2
    exact rn_sub [4] rfl (k1 _ rfl)
theorem lX12_copiesOf_6 {l : Launch} {G : Gt} {d : Nat} {t0 : Nat} {i1 : Int32} {i2 : Int32} {i3 : Int32} {u : Mem} {N : Nat} {s0 : Int32 × Int32} {r : Int32} {o : Outcome} {u' : Mem} (h : lp (fun s : Int32 × Int32 => bX12_copiesOf_6 t0 i1 i2 i3 u s.1 s.2) N s0 = some r) (k1 : Rn l G iX12_copiesOf d 68 [(4, .int r)] [] u o u') : Rn l G iX12_copiesOf d 6 [(0, rv (some t0)), (1, .int i1), (2, .int i2), (3, .int i3), (4, .int s0.1), (5, .int s0.2)] [] u o u' :=
  lp_run (P := fun s : Int32 × Int32 => Rn l G iX12_copiesOf d 6 [(0, rv (some t0)), (1, .int i1), (2, .int i2), (3, .int i3), (4, .int s.1), (5, .int s.2)] [] u o u') (E := fun r => Rn l G iX12_copiesOf d 68 [(4, .int r)] [] u o u') (fun s y hy k0 kE => btX12_copiesOf_6 hy (fun s' e => k0 s' e) (fun r e => kE r e)) N s0 r h k1
theorem tX12_copiesOf {l : Launch} {G : Gt} {d : Nat} {t0 : Nat} {p1 : Int32} {p2 : Int32} {p3 : Int32} {u : Mem} {y : Int32} (h : fX12_copiesOf t0 p1 p2 p3 u = some y) : Rn l G iX12_copiesOf d 0 [(0, rv (some t0)), (1, .int p1), (2, .int p2), (3, .int p3)] [] u (.returned (some (.int y))) u := by
  unfold fX12_copiesOf at h
  refine rn_iconst (pc := 0) (v := 0) dX12_copiesOf_0 (by decide) ?_
  refine rn_istore (pc := 1) (lv' := [(4, .int (0 : Int32)), (0, rv (some t0)), (1, .int p1), (2, .int p2), (3, .int p3)]) dX12_copiesOf_1 (by decide) rfl ?_
  refine rn_iconst (pc := 3) (v := 0) dX12_copiesOf_3 (by decide) ?_
  refine rn_istore (pc := 4) (lv' := [(5, .int (0 : Int32)), (4, .int (0 : Int32)), (0, rv (some t0)), (1, .int p1), (2, .int p2), (3, .int p3)]) dX12_copiesOf_4 (by decide) rfl ?_
  obtain ⟨r20, hr20, h1⟩ := bnd_some h
  refine rn_sub [2, 3, 4, 5, 1, 0] rfl (lX12_copiesOf_6 hr20 ?_)
  refine rn_iload (pc := 68) 0 dX12_copiesOf_68 rfl ?_
  cases h1
  exact rn_iret (pc := 70) rfl dX12_copiesOf_70
theorem eX12_copiesOf {l : Launch} {G : Gt} {d : Nat} {t0 : Nat} {p1 : Int32} {p2 : Int32} {p3 : Int32} {u : Mem} {y : Int32} (h : fX12_copiesOf t0 p1 p2 p3 u = some y) : Ex l G iX12_copiesOf d [rv (some t0), .int p1, .int p2, .int p3] u (.returned (some (.int y))) u := Ex.of (by decide +kernel) (by decide) (Nat.le_of_ble_eq_true rfl) rfl (tX12_copiesOf h)
theorem tX12_rows {l : Launch} {G : Gt} {d : Nat} {t0 : Nat} {p1 : Int32} {p2 : Int32} {p3 : Int32} {u : Mem} {y : Int32 × Mem} (h : fX12_rows t0 p1 p2 p3 u = some y) : Rn l G iX12_rows (d + 5) 0 [(0, rv (some t0)), (1, .int p1), (2, .int p2), (3, .int p3)] [] u (.returned (some (.int y.1))) y.2 := by
  unfold fX12_rows at h
  refine rn_iload_n (pc := 0) 1 dX12_rows_0 rfl rfl ?_
  obtain ⟨v1, hv1, h1⟩ := bnd_some h
  refine rn_callS (pc := 1) (n := 1) (As := [.int p1]) (rest := []) (eX12_isGuesser (d := d + 3) hv1) (by omega) tw_1248 tw_79 tw_1246 tw_1247 (by decide +kernel) rfl (Nat.le_of_ble_eq_true rfl) dX12_rows_1 rfl ?_
  rcases if_elim h1 with ⟨c2, h2⟩ | ⟨c2, h2⟩
  · refine rn_zeq_t (pc := 4) (tgt := 25) dX12_rows_4 (by decide) c2 ?_
    refine rn_bipush (pc := 25) (v := -2) dX12_rows_25 (by decide) ?_
    cases h2
    exact rn_iret (pc := 27) rfl dX12_rows_27
  · refine rn_zeq_f (pc := 4) 25 dX12_rows_4 (by decide) c2 ?_
    refine rn_aload_n (pc := 7) 0 dX12_rows_7 rfl rfl ?_
    refine rn_iload_n (pc := 8) 2 dX12_rows_8 rfl rfl ?_
    obtain ⟨b3, hb3, h3⟩ := bnd_some h2
    obtain ⟨qb3, kb3⟩ := chk_elim hb3
    cases qb3
    obtain ⟨v4, hv4, h4⟩ := bnd_some h3
    refine rn_callV (pc := 9) (n := 1) (As := [.int p2]) (rest := []) (eX12_isQuestion (d := d + 3) hv4) (by omega) okX12 kb3 tw_1240 tw_79 tw_1238 tw_1239 tw_43 (by decide +kernel) rfl (Nat.le_of_ble_eq_true rfl) dX12_rows_9 rfl ?_
    rcases if_elim h4 with ⟨c5, h5⟩ | ⟨c5, h5⟩
    · refine rn_zeq_t (pc := 12) (tgt := 25) dX12_rows_12 (by decide) c5 ?_
      refine rn_bipush (pc := 25) (v := -2) dX12_rows_25 (by decide) ?_
      cases h5
      exact rn_iret (pc := 27) rfl dX12_rows_27
    · refine rn_zeq_f (pc := 12) 25 dX12_rows_12 (by decide) c5 ?_
      refine rn_iload_n (pc := 15) 3 dX12_rows_15 rfl rfl ?_
      refine rn_i2l (pc := 16) dX12_rows_16 ?_
      refine rn_lconst (pc := 17) (v := 0) dX12_rows_17 (by decide) ?_
      refine rn_lconst (pc := 18) (v := 1) dX12_rows_18 (by decide) ?_
      obtain ⟨v6, hv6, h6⟩ := bnd_some h5
      refine rn_callS (pc := 19) (n := 3) (As := [.long (Int32.toInt64 p3), .long (0 : Int64), .long (1 : Int64)]) (rest := []) (eX12_in (d := d + 4) hv6) (by omega) tw_1174 tw_79 tw_1172 tw_1173 (by decide +kernel) rfl (Nat.le_of_ble_eq_true rfl) dX12_rows_19 rfl ?_
      rcases if_elim h6 with ⟨c7, h7⟩ | ⟨c7, h7⟩
      · refine rn_zne_f (pc := 22) 28 dX12_rows_22 (by decide) c7 ?_
        refine rn_bipush (pc := 25) (v := -2) dX12_rows_25 (by decide) ?_
        cases h7
        exact rn_iret (pc := 27) rfl dX12_rows_27
      · refine rn_zne_t (pc := 22) (tgt := 28) dX12_rows_22 (by decide) c7 ?_
        refine rn_aload_n (pc := 28) 0 dX12_rows_28 rfl rfl ?_
        obtain ⟨b8, hb8, h8⟩ := bnd_some h7
        obtain ⟨qb8, kb8⟩ := chk_elim hb8
        cases qb8
        obtain ⟨u9, hu9, h9⟩ := bnd_some h8
        refine rn_callV (pc := 29) (n := 0) (As := []) (rest := []) (eX12_prepare (d := d + 0) hu9) (by omega) okX12 kb8 tw_1267 tw_79 tw_1265 tw_1266 tw_45 (by decide +kernel) rfl (Nat.le_of_ble_eq_true rfl) dX12_rows_29 rfl ?_
        refine rn_iload_n (pc := 32) 3 dX12_rows_32 rfl rfl ?_
        rcases if_elim h9 with ⟨c10, h10⟩ | ⟨c10, h10⟩
        · refine rn_zne_f (pc := 33) 49 dX12_rows_33 (by decide) c10 ?_
          refine rn_aload_n (pc := 36) 0 dX12_rows_36 rfl rfl ?_
          obtain ⟨v11, hv11, h11⟩ := bnd_some h10
          refine rn_getR (pc := 37) (k := 40) okX12 (by decide) tw_1030 rfl dX12_rows_37 hv11 ?_
          refine rn_iload_n (pc := 40) 1 dX12_rows_40 rfl rfl ?_
          refine rn_iload_n (pc := 41) 2 dX12_rows_41 rfl rfl ?_
          obtain ⟨v12, hv12, h12⟩ := bnd_some h11
          refine rn_callS (pc := 42) (n := 2) (As := [.int p1, .int p2]) (rest := [rv v11]) (eX12_pair (d := d + 4) hv12) (by omega) tw_1270 tw_79 tw_1268 tw_1269 (by decide +kernel) rfl (cat_le8 (Nat.le_of_ble_eq_true rfl)) dX12_rows_42 rfl ?_
          obtain ⟨v13, hv13, h13⟩ := bnd_some h12
          refine rn_iald (pc := 45) dX12_rows_45 hv13 ?_
          refine rn_goto (pc := 46) (tgt := 59) dX12_rows_46 (by decide) ?_
          cases h13
          exact rn_iret (pc := 59) rfl dX12_rows_59
        · refine rn_zne_t (pc := 33) (tgt := 49) dX12_rows_33 (by decide) c10 ?_
          refine rn_aload_n (pc := 49) 0 dX12_rows_49 rfl rfl ?_
          obtain ⟨v14, hv14, h14⟩ := bnd_some h10
          refine rn_getR (pc := 50) (k := 41) okX12 (by decide) tw_1031 rfl dX12_rows_50 hv14 ?_
          refine rn_iload_n (pc := 53) 1 dX12_rows_53 rfl rfl ?_
          refine rn_iload_n (pc := 54) 2 dX12_rows_54 rfl rfl ?_
          obtain ⟨v15, hv15, h15⟩ := bnd_some h14
          refine rn_callS (pc := 55) (n := 2) (As := [.int p1, .int p2]) (rest := [rv v14]) (eX12_pair (d := d + 4) hv15) (by omega) tw_1270 tw_79 tw_1268 tw_1269 (by decide +kernel) rfl (cat_le8 (Nat.le_of_ble_eq_true rfl)) dX12_rows_55 rfl ?_
          obtain ⟨v16, hv16, h16⟩ := bnd_some h15
          refine rn_iald (pc := 58) dX12_rows_58 hv16 ?_
          cases h16
          exact rn_iret (pc := 59) rfl dX12_rows_59
theorem eX12_rows {l : Launch} {G : Gt} {d : Nat} {t0 : Nat} {p1 : Int32} {p2 : Int32} {p3 : Int32} {u : Mem} {y : Int32 × Mem} (h : fX12_rows t0 p1 p2 p3 u = some y) : Ex l G iX12_rows (d + 5) [rv (some t0), .int p1, .int p2, .int p3] u (.returned (some (.int y.1))) y.2 := Ex.of (by decide +kernel) (by decide) (Nat.le_of_ble_eq_true rfl) rfl (tX12_rows h)
theorem btX12_findMean_12 {l : Launch} {G : Gt} {d : Nat} {t0 : Nat} {i1 : Int32} {s2 : Int32} {u : Mem} {y : (Int32 × Mem) ⊕ (Mem)} {o : Outcome} {u' : Mem} (h : bX12_findMean_12 t0 i1 s2 u = some y) (k0 : ∀ s' : Int32 × Mem, y = .inl s' → Rn l G iX12_findMean (d + 2) 12 [(0, rv (some t0)), (1, .int i1), (2, .int s'.1)] [] s'.2 o u') (k1 : ∀ r : Mem, y = .inr (r) → Rn l G iX12_findMean (d + 2) 76 [] [] r o u') : Rn l G iX12_findMean (d + 2) 12 [(0, rv (some t0)), (1, .int i1), (2, .int s2)] [] u o u' := by
  unfold bX12_findMean_12 at h
  refine rn_iload_n (pc := 12) 2 dX12_findMean_12 rfl rfl ?_
  refine rn_aload_n (pc := 13) 0 dX12_findMean_13 rfl rfl ?_
  obtain ⟨v3, hv3, h1⟩ := bnd_some h
  refine rn_getI (pc := 14) (k := 25) okX12 (by decide) tw_1015 rfl dX12_findMean_14 hv3 ?_
  rcases if_elim h1 with ⟨c4, h2⟩ | ⟨c4, h2⟩
  · refine rn_ige_f (pc := 17) 76 dX12_findMean_17 (by decide) c4 ?_
    refine rn_aload_n (pc := 20) 0 dX12_findMean_20 rfl rfl ?_
    refine rn_iload_n (pc := 21) 1 dX12_findMean_21 rfl rfl ?_
    refine rn_iload_n (pc := 22) 2 dX12_findMean_22 rfl rfl ?_
    obtain ⟨b5, hb5, h3⟩ := bnd_some h2
    obtain ⟨qb5, kb5⟩ := chk_elim hb5
    cases qb5
    obtain ⟨v6, hv6, h4⟩ := bnd_some h3
    refine rn_callV (pc := 23) (n := 2) (As := [.int i1, .int s2]) (rest := []) (eX12_counts (d := d + 0) hv6) (by omega) okX12 kb5 tw_1299 tw_79 tw_1297 tw_1298 tw_53 (by decide +kernel) rfl (Nat.le_of_ble_eq_true rfl) dX12_findMean_23 rfl ?_
    rcases if_elim h4 with ⟨c7, h5⟩ | ⟨c7, h5⟩
    · refine rn_zne_f (pc := 26) 32 dX12_findMean_26 (by decide) c7 ?_
      refine rn_goto (pc := 29) (tgt := 70) dX12_findMean_29 (by decide) ?_
      obtain ⟨x8, ex8, h6⟩ := nm_elim h5
      refine rn_iinc (pc := 70) (v := x8) (lv' := [(2, .int x8), (0, rv (some t0)), (1, .int i1)]) 2 dX12_findMean_70 rfl (by rw [ex8]; rfl) (by decide) rfl ?_
      refine rn_goto (pc := 73) (tgt := 12) dX12_findMean_73 (by decide) ?_
      cases h6
      exact rn_sub [1, 2, 0] rfl (k0 _ rfl)
    · refine rn_zne_t (pc := 26) (tgt := 32) dX12_findMean_26 (by decide) c7 ?_
      refine rn_aload_n (pc := 32) 0 dX12_findMean_32 rfl rfl ?_
      refine rn_dup (pc := 33) dX12_findMean_33 (rv_cat _) ?_
      obtain ⟨v9, hv9, h7⟩ := bnd_some h5
      refine rn_getI (pc := 34) (k := 45) okX12 (by decide) tw_1035 rfl dX12_findMean_34 hv9 ?_
      refine rn_aload_n (pc := 37) 0 dX12_findMean_37 rfl rfl ?_
      obtain ⟨v10, hv10, h8⟩ := bnd_some h7
      refine rn_getR (pc := 38) (k := 41) okX12 (by decide) tw_1031 rfl dX12_findMean_38 hv10 ?_
      refine rn_iload_n (pc := 41) 1 dX12_findMean_41 rfl rfl ?_
      refine rn_iload_n (pc := 42) 2 dX12_findMean_42 rfl rfl ?_
      obtain ⟨v11, hv11, h9⟩ := bnd_some h8
      refine rn_callS (pc := 43) (n := 2) (As := [.int i1, .int s2]) (rest := [rv v10, .int v9, rv (some t0)]) (eX12_pair (d := d + 1) hv11) (by omega) tw_1270 tw_79 tw_1268 tw_1269 (by decide +kernel) rfl (cat_le8 (Nat.le_of_ble_eq_true rfl)) dX12_findMean_43 rfl ?_
      obtain ⟨v12, hv12, h10⟩ := bnd_some h9
      refine rn_iald (pc := 46) dX12_findMean_46 hv12 ?_
      refine rn_iadd (pc := 47) dX12_findMean_47 ?_
      obtain ⟨u13, hu13, h11⟩ := bnd_some h10
      refine rn_putI (pc := 48) (k := 45) okX12 (by decide) tw_1035 (Or.inl rfl) (Or.inl rfl) dX12_findMean_48 hu13 ?_
      refine rn_aload_n (pc := 51) 0 dX12_findMean_51 rfl rfl ?_
      refine rn_dup (pc := 52) dX12_findMean_52 (rv_cat _) ?_
      obtain ⟨v14, hv14, h12⟩ := bnd_some h11
      refine rn_getI (pc := 53) (k := 46) okX12 (by decide) tw_1036 rfl dX12_findMean_53 hv14 ?_
      refine rn_aload_n (pc := 56) 0 dX12_findMean_56 rfl rfl ?_
      obtain ⟨v15, hv15, h13⟩ := bnd_some h12
      refine rn_getR (pc := 57) (k := 40) okX12 (by decide) tw_1030 rfl dX12_findMean_57 hv15 ?_
      refine rn_iload_n (pc := 60) 1 dX12_findMean_60 rfl rfl ?_
      refine rn_iload_n (pc := 61) 2 dX12_findMean_61 rfl rfl ?_
      obtain ⟨v16, hv16, h14⟩ := bnd_some h13
      refine rn_callS (pc := 62) (n := 2) (As := [.int i1, .int s2]) (rest := [rv v15, .int v14, rv (some t0)]) (eX12_pair (d := d + 1) hv16) (by omega) tw_1270 tw_79 tw_1268 tw_1269 (by decide +kernel) rfl (cat_le8 (Nat.le_of_ble_eq_true rfl)) dX12_findMean_62 rfl ?_
      obtain ⟨v17, hv17, h15⟩ := bnd_some h14
      refine rn_iald (pc := 65) dX12_findMean_65 hv17 ?_
      refine rn_iadd (pc := 66) dX12_findMean_66 ?_
      obtain ⟨u18, hu18, h16⟩ := bnd_some h15
      refine rn_putI (pc := 67) (k := 46) okX12 (by decide) tw_1036 (Or.inl rfl) (Or.inl rfl) dX12_findMean_67 hu18 ?_
      obtain ⟨x19, ex19, h17⟩ := nm_elim h16
      refine rn_iinc (pc := 70) (v := x19) (lv' := [(2, .int x19), (0, rv (some t0)), (1, .int i1)]) 2 dX12_findMean_70 rfl (by rw [ex19]; rfl) (by decide) rfl ?_
      refine rn_goto (pc := 73) (tgt := 12) dX12_findMean_73 (by decide) ?_
      cases h17
      exact rn_sub [1, 2, 0] rfl (k0 _ rfl)
  · refine rn_ige_t (pc := 17) (tgt := 76) dX12_findMean_17 (by decide) c4 ?_
    cases h2
    exact rn_sub [] rfl (k1 _ rfl)
theorem lX12_findMean_12 {l : Launch} {G : Gt} {d : Nat} {t0 : Nat} {i1 : Int32} {N : Nat} {s0 : Int32 × Mem} {r : Mem} {o : Outcome} {u' : Mem} (h : lp (fun s : Int32 × Mem => bX12_findMean_12 t0 i1 s.1 s.2) N s0 = some r) (k1 : Rn l G iX12_findMean (d + 2) 76 [] [] r o u') : Rn l G iX12_findMean (d + 2) 12 [(0, rv (some t0)), (1, .int i1), (2, .int s0.1)] [] s0.2 o u' :=
  lp_run (P := fun s : Int32 × Mem => Rn l G iX12_findMean (d + 2) 12 [(0, rv (some t0)), (1, .int i1), (2, .int s.1)] [] s.2 o u') (E := fun r => Rn l G iX12_findMean (d + 2) 76 [] [] r o u') (fun s y hy k0 kE => btX12_findMean_12 hy (fun s' e => k0 s' e) (fun r e => kE r e)) N s0 r h k1
theorem tX12_findMean {l : Launch} {G : Gt} {d : Nat} {t0 : Nat} {p1 : Int32} {u : Mem} {y : Mem} (h : fX12_findMean t0 p1 u = some y) : Rn l G iX12_findMean (d + 2) 0 [(0, rv (some t0)), (1, .int p1)] [] u (.returned none) y := by
  unfold fX12_findMean at h
  refine rn_aload_n (pc := 0) 0 dX12_findMean_0 rfl rfl ?_
  refine rn_iconst (pc := 1) (v := 0) dX12_findMean_1 (by decide) ?_
  obtain ⟨u1, hu1, h1⟩ := bnd_some h
  refine rn_putI (pc := 2) (k := 45) okX12 (by decide) tw_1035 (Or.inl rfl) (Or.inl rfl) dX12_findMean_2 hu1 ?_
  refine rn_aload_n (pc := 5) 0 dX12_findMean_5 rfl rfl ?_
  refine rn_iconst (pc := 6) (v := 0) dX12_findMean_6 (by decide) ?_
  obtain ⟨u2, hu2, h2⟩ := bnd_some h1
  refine rn_putI (pc := 7) (k := 46) okX12 (by decide) tw_1036 (Or.inl rfl) (Or.inl rfl) dX12_findMean_7 hu2 ?_
  refine rn_iconst (pc := 10) (v := 0) dX12_findMean_10 (by decide) ?_
  refine rn_istore_n (pc := 11) (lv' := [(2, .int (0 : Int32)), (0, rv (some t0)), (1, .int p1)]) dX12_findMean_11 rfl (by decide) rfl ?_
  obtain ⟨r20, hr20, h3⟩ := bnd_some h2
  refine rn_sub [1, 2, 0] rfl (lX12_findMean_12 hr20 ?_)
  cases h3
  exact rn_vret (pc := 76) rfl dX12_findMean_76
theorem eX12_findMean {l : Launch} {G : Gt} {d : Nat} {t0 : Nat} {p1 : Int32} {u : Mem} {y : Mem} (h : fX12_findMean t0 p1 u = some y) : Ex l G iX12_findMean (d + 2) [rv (some t0), .int p1] u (.returned none) y := Ex.of (by decide +kernel) (by decide) (Nat.le_of_ble_eq_true rfl) rfl (tX12_findMean h)
theorem btX12_common_4 {l : Launch} {G : Gt} {d : Nat} {u : Mem} {s2 : Int32} {s3 : Int32} {y : (Int32 × Int32) ⊕ (Int32)} {o : Outcome} {u' : Mem} (h : bX12_common_4 u s2 s3 = some y) (k0 : ∀ s' : Int32 × Int32, y = .inl s' → Rn l G iX12_common d 4 [(2, .int s'.1), (3, .int s'.2)] [] u o u') (k1 : ∀ r : Int32, y = .inr (r) → Rn l G iX12_common d 21 [(2, .int r)] [] u o u') : Rn l G iX12_common d 4 [(2, .int s2), (3, .int s3)] [] u o u' := by
  unfold bX12_common_4 at h
  refine rn_iload_n (pc := 4) 1 dX12_common_4 rfl rfl ?_
  rcases if_elim h with ⟨c1, h1⟩ | ⟨c1, h1⟩
  · refine rn_zeq_t (pc := 5) (tgt := 21) dX12_common_5 (by decide) c1 ?_
    cases h1
    exact rn_sub [0] rfl (k1 _ rfl)
  · refine rn_zeq_f (pc := 5) 21 dX12_common_5 (by decide) c1 ?_
    refine rn_iload_n (pc := 8) 0 dX12_common_8 rfl rfl ?_
    refine rn_iload_n (pc := 9) 1 dX12_common_9 rfl rfl ?_
    obtain ⟨z2, hz2, h2⟩ := bnd_some h1
    have hz2 := (nz32_elim hz2).2
    refine rn_irem (pc := 10) dX12_common_10 hz2 ?_
    obtain ⟨x3, ex3, h3⟩ := nm_elim h2
    refine rn_topi ex3 ?_
    refine rn_istore (pc := 11) (lv' := [(4, .int x3), (2, .int s2), (3, .int s3)]) dX12_common_11 (by decide) rfl ?_
    refine rn_iload_n (pc := 13) 2 dX12_common_13 rfl rfl ?_
    refine rn_istore_n (pc := 14) (lv' := [(2, .int s3), (4, .int x3), (3, .int s3)]) dX12_common_14 rfl (by decide) rfl ?_
    refine rn_iload (pc := 15) 1 dX12_common_15 rfl ?_
    refine rn_istore_n (pc := 17) (lv' := [(3, .int x3), (2, .int s3), (4, .int x3)]) dX12_common_17 rfl (by decide) rfl ?_
    refine rn_goto (pc := 18) (tgt := 4) dX12_common_18 (by decide) ?_
    cases h3
    exact rn_sub [1, 0] rfl (k0 _ rfl)
theorem lX12_common_4 {l : Launch} {G : Gt} {d : Nat} {u : Mem} {N : Nat} {s0 : Int32 × Int32} {r : Int32} {o : Outcome} {u' : Mem} (h : lp (fun s : Int32 × Int32 => bX12_common_4 u s.1 s.2) N s0 = some r) (k1 : Rn l G iX12_common d 21 [(2, .int r)] [] u o u') : Rn l G iX12_common d 4 [(2, .int s0.1), (3, .int s0.2)] [] u o u' :=
  lp_run (P := fun s : Int32 × Int32 => Rn l G iX12_common d 4 [(2, .int s.1), (3, .int s.2)] [] u o u') (E := fun r => Rn l G iX12_common d 21 [(2, .int r)] [] u o u') (fun s y hy k0 kE => btX12_common_4 hy (fun s' e => k0 s' e) (fun r e => kE r e)) N s0 r h k1
theorem tX12_common {l : Launch} {G : Gt} {d : Nat} {p0 : Int32} {p1 : Int32} {u : Mem} {y : Int32} (h : fX12_common p0 p1 u = some y) : Rn l G iX12_common d 0 [(0, .int p0), (1, .int p1)] [] u (.returned (some (.int y))) u := by
  unfold fX12_common at h
  refine rn_iload_n (pc := 0) 0 dX12_common_0 rfl rfl ?_
  refine rn_istore_n (pc := 1) (lv' := [(2, .int p0), (0, .int p0), (1, .int p1)]) dX12_common_1 rfl (by decide) rfl ?_
  refine rn_iload_n (pc := 2) 2 dX12_common_2 rfl rfl ?_
  refine rn_istore_n (pc := 3) (lv' := [(3, .int p1), (2, .int p0), (0, .int p0), (1, .int p1)]) dX12_common_3 rfl (by decide) rfl ?_
  obtain ⟨r4, hr4, h1⟩ := bnd_some h
  refine rn_sub [1, 0] rfl (lX12_common_4 hr4 ?_)
  refine rn_iload_n (pc := 21) 0 dX12_common_21 rfl rfl ?_
  cases h1
  exact rn_iret (pc := 22) rfl dX12_common_22
theorem eX12_common {l : Launch} {G : Gt} {d : Nat} {p0 : Int32} {p1 : Int32} {u : Mem} {y : Int32} (h : fX12_common p0 p1 u = some y) : Ex l G iX12_common d [.int p0, .int p1] u (.returned (some (.int y))) u := Ex.of (by decide +kernel) (by decide) (Nat.le_of_ble_eq_true rfl) rfl (tX12_common h)
theorem tX12_mean {l : Launch} {G : Gt} {d : Nat} {t0 : Nat} {p1 : Int32} {p2 : Int32} {u : Mem} {y : Int32 × Mem} (h : fX12_mean t0 p1 p2 u = some y) : Rn l G iX12_mean (d + 5) 0 [(0, rv (some t0)), (1, .int p1), (2, .int p2)] [] u (.returned (some (.int y.1))) y.2 := by
  unfold fX12_mean at h
  refine rn_iload_n (pc := 0) 1 dX12_mean_0 rfl rfl ?_
  obtain ⟨v1, hv1, h1⟩ := bnd_some h
  refine rn_callS (pc := 1) (n := 1) (As := [.int p1]) (rest := []) (eX12_isGuesser (d := d + 3) hv1) (by omega) tw_1248 tw_79 tw_1246 tw_1247 (by decide +kernel) rfl (Nat.le_of_ble_eq_true rfl) dX12_mean_1 rfl ?_
  rcases if_elim h1 with ⟨c2, h2⟩ | ⟨c2, h2⟩
  · refine rn_zeq_t (pc := 4) (tgt := 17) dX12_mean_4 (by decide) c2 ?_
    refine rn_bipush (pc := 17) (v := -2) dX12_mean_17 (by decide) ?_
    cases h2
    exact rn_iret (pc := 19) rfl dX12_mean_19
  · refine rn_zeq_f (pc := 4) 17 dX12_mean_4 (by decide) c2 ?_
    refine rn_iload_n (pc := 7) 2 dX12_mean_7 rfl rfl ?_
    refine rn_i2l (pc := 8) dX12_mean_8 ?_
    refine rn_lconst (pc := 9) (v := 0) dX12_mean_9 (by decide) ?_
    refine rn_lconst (pc := 10) (v := 1) dX12_mean_10 (by decide) ?_
    obtain ⟨v3, hv3, h3⟩ := bnd_some h2
    refine rn_callS (pc := 11) (n := 3) (As := [.long (Int32.toInt64 p2), .long (0 : Int64), .long (1 : Int64)]) (rest := []) (eX12_in (d := d + 4) hv3) (by omega) tw_1174 tw_79 tw_1172 tw_1173 (by decide +kernel) rfl (Nat.le_of_ble_eq_true rfl) dX12_mean_11 rfl ?_
    rcases if_elim h3 with ⟨c4, h4⟩ | ⟨c4, h4⟩
    · refine rn_zne_f (pc := 14) 20 dX12_mean_14 (by decide) c4 ?_
      refine rn_bipush (pc := 17) (v := -2) dX12_mean_17 (by decide) ?_
      cases h4
      exact rn_iret (pc := 19) rfl dX12_mean_19
    · refine rn_zne_t (pc := 14) (tgt := 20) dX12_mean_14 (by decide) c4 ?_
      refine rn_aload_n (pc := 20) 0 dX12_mean_20 rfl rfl ?_
      obtain ⟨b5, hb5, h5⟩ := bnd_some h4
      obtain ⟨qb5, kb5⟩ := chk_elim hb5
      cases qb5
      obtain ⟨u6, hu6, h6⟩ := bnd_some h5
      refine rn_callV (pc := 21) (n := 0) (As := []) (rest := []) (eX12_prepare (d := d + 0) hu6) (by omega) okX12 kb5 tw_1267 tw_79 tw_1265 tw_1266 tw_45 (by decide +kernel) rfl (Nat.le_of_ble_eq_true rfl) dX12_mean_21 rfl ?_
      refine rn_aload_n (pc := 24) 0 dX12_mean_24 rfl rfl ?_
      refine rn_iload_n (pc := 25) 1 dX12_mean_25 rfl rfl ?_
      obtain ⟨b7, hb7, h7⟩ := bnd_some h6
      obtain ⟨qb7, kb7⟩ := chk_elim hb7
      cases qb7
      obtain ⟨u8, hu8, h8⟩ := bnd_some h7
      refine rn_callV (pc := 26) (n := 1) (As := [.int p1]) (rest := []) (eX12_findMean (d := d + 2) hu8) (by omega) okX12 kb7 tw_1296 tw_79 tw_1294 tw_1295 tw_52 (by decide +kernel) rfl (Nat.le_of_ble_eq_true rfl) dX12_mean_26 rfl ?_
      refine rn_aload_n (pc := 29) 0 dX12_mean_29 rfl rfl ?_
      obtain ⟨v9, hv9, h9⟩ := bnd_some h8
      refine rn_getI (pc := 30) (k := 46) okX12 (by decide) tw_1036 rfl dX12_mean_30 hv9 ?_
      rcases if_elim h9 with ⟨c10, h10⟩ | ⟨c10, h10⟩
      · refine rn_zne_f (pc := 33) 38 dX12_mean_33 (by decide) c10 ?_
        refine rn_iconst (pc := 36) (v := 0) dX12_mean_36 (by decide) ?_
        cases h10
        exact rn_iret (pc := 37) rfl dX12_mean_37
      · refine rn_zne_t (pc := 33) (tgt := 38) dX12_mean_33 (by decide) c10 ?_
        refine rn_aload_n (pc := 38) 0 dX12_mean_38 rfl rfl ?_
        obtain ⟨v11, hv11, h11⟩ := bnd_some h10
        refine rn_getI (pc := 39) (k := 45) okX12 (by decide) tw_1035 rfl dX12_mean_39 hv11 ?_
        refine rn_aload_n (pc := 42) 0 dX12_mean_42 rfl rfl ?_
        obtain ⟨v12, hv12, h12⟩ := bnd_some h11
        refine rn_getI (pc := 43) (k := 46) okX12 (by decide) tw_1036 rfl dX12_mean_43 hv12 ?_
        obtain ⟨v13, hv13, h13⟩ := bnd_some h12
        refine rn_callS (pc := 46) (n := 2) (As := [.int v11, .int v12]) (rest := []) (eX12_common (d := d + 4) hv13) (by omega) tw_1302 tw_79 tw_1300 tw_1301 (by decide +kernel) rfl (Nat.le_of_ble_eq_true rfl) dX12_mean_46 rfl ?_
        refine rn_istore_n (pc := 49) (lv' := [(3, .int v13), (0, rv (some t0)), (1, .int p1), (2, .int p2)]) dX12_mean_49 rfl (by decide) rfl ?_
        refine rn_iload_n (pc := 50) 3 dX12_mean_50 rfl rfl ?_
        rcases if_elim h13 with ⟨c14, h14⟩ | ⟨c14, h14⟩
        · refine rn_zne_f (pc := 51) 63 dX12_mean_51 (by decide) c14 ?_
          refine rn_aload_n (pc := 54) 1 dX12_mean_54 rfl rfl ?_
          obtain ⟨v15, hv15, h15⟩ := bnd_some h14
          refine rn_getI (pc := 55) (k := 45) okX12 (by decide) tw_1035 rfl dX12_mean_55 hv15 ?_
          refine rn_iload_n (pc := 58) 0 dX12_mean_58 rfl rfl ?_
          obtain ⟨z16, hz16, h16⟩ := bnd_some h15
          have hz16 := (nz32_elim hz16).2
          refine rn_idiv (pc := 59) dX12_mean_59 hz16 ?_
          refine rn_goto (pc := 60) (tgt := 69) dX12_mean_60 (by decide) ?_
          cases h16
          exact rn_iret (pc := 69) rfl dX12_mean_69
        · refine rn_zne_t (pc := 51) (tgt := 63) dX12_mean_51 (by decide) c14 ?_
          refine rn_aload_n (pc := 63) 1 dX12_mean_63 rfl rfl ?_
          obtain ⟨v17, hv17, h17⟩ := bnd_some h14
          refine rn_getI (pc := 64) (k := 46) okX12 (by decide) tw_1036 rfl dX12_mean_64 hv17 ?_
          refine rn_iload_n (pc := 67) 0 dX12_mean_67 rfl rfl ?_
          obtain ⟨z18, hz18, h18⟩ := bnd_some h17
          have hz18 := (nz32_elim hz18).2
          refine rn_idiv (pc := 68) dX12_mean_68 hz18 ?_
          cases h18
          exact rn_iret (pc := 69) rfl dX12_mean_69
theorem eX12_mean {l : Launch} {G : Gt} {d : Nat} {t0 : Nat} {p1 : Int32} {p2 : Int32} {u : Mem} {y : Int32 × Mem} (h : fX12_mean t0 p1 p2 u = some y) : Ex l G iX12_mean (d + 5) [rv (some t0), .int p1, .int p2] u (.returned (some (.int y.1))) y.2 := Ex.of (by decide +kernel) (by decide) (Nat.le_of_ble_eq_true rfl) rfl (tX12_mean h)
theorem btX12_findMeans_6 {l : Launch} {G : Gt} {d : Nat} {t0 : Nat} {s1 : Int32} {u : Mem} {y : (Int32 × Mem) ⊕ (Mem)} {o : Outcome} {u' : Mem} (h : bX12_findMeans_6 t0 s1 u = some y) (k0 : ∀ s' : Int32 × Mem, y = .inl s' → Rn l G iX12_findMeans (d + 5) 6 [(0, rv (some t0)), (1, .int s'.1)] [] s'.2 o u') (k1 : ∀ r : Mem, y = .inr (r) → Rn l G iX12_findMeans (d + 5) 43 [] [] r o u') : Rn l G iX12_findMeans (d + 5) 6 [(0, rv (some t0)), (1, .int s1)] [] u o u' := by
  unfold bX12_findMeans_6 at h
  refine rn_iload_n (pc := 6) 1 dX12_findMeans_6 rfl rfl ?_
  refine rn_bipush (pc := 7) (v := 20) dX12_findMeans_7 (by decide) ?_
  rcases if_elim h with ⟨c3, h1⟩ | ⟨c3, h1⟩
  · refine rn_ige_f (pc := 9) 43 dX12_findMeans_9 (by decide) c3 ?_
    refine rn_aload_n (pc := 12) 0 dX12_findMeans_12 rfl rfl ?_
    refine rn_iload_n (pc := 13) 1 dX12_findMeans_13 rfl rfl ?_
    obtain ⟨b4, hb4, h2⟩ := bnd_some h1
    obtain ⟨qb4, kb4⟩ := chk_elim hb4
    cases qb4
    obtain ⟨u5, hu5, h3⟩ := bnd_some h2
    refine rn_callV (pc := 14) (n := 1) (As := [.int s1]) (rest := []) (eX12_findMean (d := d + 2) hu5) (by omega) okX12 kb4 tw_1296 tw_79 tw_1294 tw_1295 tw_52 (by decide +kernel) rfl (Nat.le_of_ble_eq_true rfl) dX12_findMeans_14 rfl ?_
    refine rn_aload_n (pc := 17) 0 dX12_findMeans_17 rfl rfl ?_
    obtain ⟨v6, hv6, h4⟩ := bnd_some h3
    refine rn_getR (pc := 18) (k := 47) okX12 (by decide) tw_1037 rfl dX12_findMeans_18 hv6 ?_
    refine rn_iload_n (pc := 21) 1 dX12_findMeans_21 rfl rfl ?_
    refine rn_aload_n (pc := 22) 0 dX12_findMeans_22 rfl rfl ?_
    obtain ⟨v7, hv7, h5⟩ := bnd_some h4
    refine rn_getI (pc := 23) (k := 45) okX12 (by decide) tw_1035 rfl dX12_findMeans_23 hv7 ?_
    obtain ⟨u8, hu8, h6⟩ := bnd_some h5
    refine rn_iast (pc := 26) dX12_findMeans_26 hu8 ?_
    refine rn_aload_n (pc := 27) 0 dX12_findMeans_27 rfl rfl ?_
    obtain ⟨v9, hv9, h7⟩ := bnd_some h6
    refine rn_getR (pc := 28) (k := 48) okX12 (by decide) tw_1038 rfl dX12_findMeans_28 hv9 ?_
    refine rn_iload_n (pc := 31) 1 dX12_findMeans_31 rfl rfl ?_
    refine rn_aload_n (pc := 32) 0 dX12_findMeans_32 rfl rfl ?_
    obtain ⟨v10, hv10, h8⟩ := bnd_some h7
    refine rn_getI (pc := 33) (k := 46) okX12 (by decide) tw_1036 rfl dX12_findMeans_33 hv10 ?_
    obtain ⟨u11, hu11, h9⟩ := bnd_some h8
    refine rn_iast (pc := 36) dX12_findMeans_36 hu11 ?_
    obtain ⟨x12, ex12, h10⟩ := nm_elim h9
    refine rn_iinc (pc := 37) (v := x12) (lv' := [(1, .int x12), (0, rv (some t0))]) 1 dX12_findMeans_37 rfl (by rw [ex12]; rfl) (by decide) rfl ?_
    refine rn_goto (pc := 40) (tgt := 6) dX12_findMeans_40 (by decide) ?_
    cases h10
    exact rn_sub [1, 0] rfl (k0 _ rfl)
  · refine rn_ige_t (pc := 9) (tgt := 43) dX12_findMeans_9 (by decide) c3 ?_
    cases h1
    exact rn_sub [] rfl (k1 _ rfl)
theorem lX12_findMeans_6 {l : Launch} {G : Gt} {d : Nat} {t0 : Nat} {N : Nat} {s0 : Int32 × Mem} {r : Mem} {o : Outcome} {u' : Mem} (h : lp (fun s : Int32 × Mem => bX12_findMeans_6 t0 s.1 s.2) N s0 = some r) (k1 : Rn l G iX12_findMeans (d + 5) 43 [] [] r o u') : Rn l G iX12_findMeans (d + 5) 6 [(0, rv (some t0)), (1, .int s0.1)] [] s0.2 o u' :=
  lp_run (P := fun s : Int32 × Mem => Rn l G iX12_findMeans (d + 5) 6 [(0, rv (some t0)), (1, .int s.1)] [] s.2 o u') (E := fun r => Rn l G iX12_findMeans (d + 5) 43 [] [] r o u') (fun s y hy k0 kE => btX12_findMeans_6 hy (fun s' e => k0 s' e) (fun r e => kE r e)) N s0 r h k1
theorem tX12_findMeans {l : Launch} {G : Gt} {d : Nat} {t0 : Nat} {u : Mem} {y : Mem} (h : fX12_findMeans t0 u = some y) : Rn l G iX12_findMeans (d + 5) 0 [(0, rv (some t0))] [] u (.returned none) y := by
  unfold fX12_findMeans at h
  refine rn_aload_n (pc := 0) 0 dX12_findMeans_0 rfl rfl ?_
  obtain ⟨b1, hb1, h1⟩ := bnd_some h
  obtain ⟨qb1, kb1⟩ := chk_elim hb1
  cases qb1
  obtain ⟨u2, hu2, h2⟩ := bnd_some h1
  refine rn_callV (pc := 1) (n := 0) (As := []) (rest := []) (eX12_prepare (d := d + 0) hu2) (by omega) okX12 kb1 tw_1267 tw_79 tw_1265 tw_1266 tw_45 (by decide +kernel) rfl (Nat.le_of_ble_eq_true rfl) dX12_findMeans_1 rfl ?_
  refine rn_iconst (pc := 4) (v := 0) dX12_findMeans_4 (by decide) ?_
  refine rn_istore_n (pc := 5) (lv' := [(1, .int (0 : Int32)), (0, rv (some t0))]) dX12_findMeans_5 rfl (by decide) rfl ?_
  obtain ⟨r13, hr13, h3⟩ := bnd_some h2
  refine rn_sub [1, 0] rfl (lX12_findMeans_6 hr13 ?_)
  cases h3
  exact rn_vret (pc := 43) rfl dX12_findMeans_43
theorem eX12_findMeans {l : Launch} {G : Gt} {d : Nat} {t0 : Nat} {u : Mem} {y : Mem} (h : fX12_findMeans t0 u = some y) : Ex l G iX12_findMeans (d + 5) [rv (some t0)] u (.returned none) y := Ex.of (by decide +kernel) (by decide) (Nat.le_of_ble_eq_true rfl) rfl (tX12_findMeans h)
theorem btX12_ranked_29 {l : Launch} {G : Gt} {d : Nat} {t0 : Nat} {i1 : Int32} {i2 : Int32} {u : Mem} {s3 : Int32} {s4 : Int32} {y : (Int32 × Int32) ⊕ (Int32)} {o : Outcome} {u' : Mem} (h : bX12_ranked_29 t0 i1 i2 u s3 s4 = some y) (k0 : ∀ s' : Int32 × Int32, y = .inl s' → Rn l G iX12_ranked (d + 6) 29 [(0, rv (some t0)), (1, .int i1), (2, .int i2), (3, .int s'.1), (4, .int s'.2)] [] u o u') (k1 : ∀ r : Int32, y = .inr (r) → Rn l G iX12_ranked (d + 6) 127 [(0, rv (some t0)), (1, .int i1), (2, .int i2), (3, .int r)] [] u o u') : Rn l G iX12_ranked (d + 6) 29 [(0, rv (some t0)), (1, .int i1), (2, .int i2), (3, .int s3), (4, .int s4)] [] u o u' := by
  unfold bX12_ranked_29 at h
  refine rn_iload (pc := 29) 4 dX12_ranked_29 rfl ?_
  refine rn_bipush (pc := 31) (v := 20) dX12_ranked_31 (by decide) ?_
  rcases if_elim h with ⟨c8, h1⟩ | ⟨c8, h1⟩
  · refine rn_ige_f (pc := 33) 127 dX12_ranked_33 (by decide) c8 ?_
    refine rn_aload_n (pc := 36) 0 dX12_ranked_36 rfl rfl ?_
    obtain ⟨v9, hv9, h2⟩ := bnd_some h1
    refine rn_getR (pc := 37) (k := 48) okX12 (by decide) tw_1038 rfl dX12_ranked_37 hv9 ?_
    refine rn_iload (pc := 40) 4 dX12_ranked_40 rfl ?_
    obtain ⟨v10, hv10, h3⟩ := bnd_some h2
    refine rn_iald (pc := 42) dX12_ranked_42 hv10 ?_
    rcases if_elim h3 with ⟨c11, h4⟩ | ⟨c11, h4⟩
    · refine rn_zeq_t (pc := 43) (tgt := 121) dX12_ranked_43 (by decide) c11 ?_
      obtain ⟨x12, ex12, h5⟩ := nm_elim h4
      refine rn_iinc (pc := 121) (v := x12) (lv' := [(4, .int x12), (0, rv (some t0)), (1, .int i1), (2, .int i2), (3, .int s3)]) 4 dX12_ranked_121 rfl (by rw [ex12]; rfl) (by decide) rfl ?_
      refine rn_goto (pc := 124) (tgt := 29) dX12_ranked_124 (by decide) ?_
      cases h5
      exact rn_sub [1, 2, 3, 4, 0] rfl (k0 _ rfl)
    · refine rn_zeq_f (pc := 43) 121 dX12_ranked_43 (by decide) c11 ?_
      refine rn_iload (pc := 46) 4 dX12_ranked_46 rfl ?_
      refine rn_iload_n (pc := 48) 2 dX12_ranked_48 rfl rfl ?_
      rcases if_elim h4 with ⟨c13, h6⟩ | ⟨c13, h6⟩
      · refine rn_ine_f (pc := 49) 55 dX12_ranked_49 (by decide) c13 ?_
        refine rn_goto (pc := 52) (tgt := 121) dX12_ranked_52 (by decide) ?_
        obtain ⟨x14, ex14, h7⟩ := nm_elim h6
        refine rn_iinc (pc := 121) (v := x14) (lv' := [(4, .int x14), (0, rv (some t0)), (1, .int i1), (2, .int i2), (3, .int s3)]) 4 dX12_ranked_121 rfl (by rw [ex14]; rfl) (by decide) rfl ?_
        refine rn_goto (pc := 124) (tgt := 29) dX12_ranked_124 (by decide) ?_
        cases h7
        exact rn_sub [1, 2, 3, 4, 0] rfl (k0 _ rfl)
      · refine rn_ine_t (pc := 49) (tgt := 55) dX12_ranked_49 (by decide) c13 ?_
        refine rn_aload_n (pc := 55) 0 dX12_ranked_55 rfl rfl ?_
        obtain ⟨v15, hv15, h8⟩ := bnd_some h6
        refine rn_getR (pc := 56) (k := 47) okX12 (by decide) tw_1037 rfl dX12_ranked_56 hv15 ?_
        refine rn_iload (pc := 59) 4 dX12_ranked_59 rfl ?_
        obtain ⟨v16, hv16, h9⟩ := bnd_some h8
        refine rn_iald (pc := 61) dX12_ranked_61 hv16 ?_
        refine rn_i2l (pc := 62) dX12_ranked_62 ?_
        refine rn_aload_n (pc := 63) 0 dX12_ranked_63 rfl rfl ?_
        obtain ⟨v17, hv17, h10⟩ := bnd_some h9
        refine rn_getR (pc := 64) (k := 48) okX12 (by decide) tw_1038 rfl dX12_ranked_64 hv17 ?_
        refine rn_iload_n (pc := 67) 2 dX12_ranked_67 rfl rfl ?_
        obtain ⟨v18, hv18, h11⟩ := bnd_some h10
        refine rn_iald (pc := 68) dX12_ranked_68 hv18 ?_
        refine rn_i2l (pc := 69) dX12_ranked_69 ?_
        refine rn_lmul (pc := 70) dX12_ranked_70 ?_
        obtain ⟨x19, ex19, h12⟩ := nm_elim h11
        refine rn_topl ex19 ?_
        refine rn_lstore (pc := 71) (lv' := [(5, .long x19), (0, rv (some t0)), (1, .int i1), (2, .int i2), (3, .int s3), (4, .int s4)]) dX12_ranked_71 (by decide) rfl ?_
        refine rn_aload_n (pc := 73) 1 dX12_ranked_73 rfl rfl ?_
        obtain ⟨v20, hv20, h13⟩ := bnd_some h12
        refine rn_getR (pc := 74) (k := 47) okX12 (by decide) tw_1037 rfl dX12_ranked_74 hv20 ?_
        refine rn_iload_n (pc := 77) 3 dX12_ranked_77 rfl rfl ?_
        obtain ⟨v21, hv21, h14⟩ := bnd_some h13
        refine rn_iald (pc := 78) dX12_ranked_78 hv21 ?_
        refine rn_i2l (pc := 79) dX12_ranked_79 ?_
        refine rn_aload_n (pc := 80) 1 dX12_ranked_80 rfl rfl ?_
        obtain ⟨v22, hv22, h15⟩ := bnd_some h14
        refine rn_getR (pc := 81) (k := 48) okX12 (by decide) tw_1038 rfl dX12_ranked_81 hv22 ?_
        refine rn_iload (pc := 84) 5 dX12_ranked_84 rfl ?_
        obtain ⟨v23, hv23, h16⟩ := bnd_some h15
        refine rn_iald (pc := 86) dX12_ranked_86 hv23 ?_
        refine rn_i2l (pc := 87) dX12_ranked_87 ?_
        refine rn_lmul (pc := 88) dX12_ranked_88 ?_
        obtain ⟨x24, ex24, h17⟩ := nm_elim h16
        refine rn_topl ex24 ?_
        refine rn_lstore (pc := 89) (lv' := [(7, .long x24), (5, .long x19), (0, rv (some t0)), (1, .int i1), (2, .int i2), (3, .int s3), (4, .int s4)]) dX12_ranked_89 (by decide) rfl ?_
        refine rn_iload_n (pc := 91) 5 dX12_ranked_91 rfl rfl ?_
        refine rn_lload (pc := 92) 1 dX12_ranked_92 rfl ?_
        refine rn_lload (pc := 94) 0 dX12_ranked_94 rfl ?_
        refine rn_lcmp (pc := 96) dX12_ranked_96 ?_
        rcases if_elim h17 with ⟨c25, h18⟩ | ⟨c25, h18⟩
        · refine rn_zlt_t (pc := 97) (tgt := 114) dX12_ranked_97 (by decide) c25 ?_
          refine rn_iconst (pc := 114) (v := 1) dX12_ranked_114 (by decide) ?_
          refine rn_goto (pc := 115) (tgt := 119) dX12_ranked_115 (by decide) ?_
          refine rn_iadd (pc := 119) dX12_ranked_119 ?_
          obtain ⟨x26, ex26, h19⟩ := nm_elim h18
          refine rn_topi ex26 ?_
          refine rn_istore_n (pc := 120) (lv' := [(3, .int x26), (7, .long x24), (5, .long x19), (0, rv (some t0)), (1, .int i1), (2, .int i2), (4, .int s4)]) dX12_ranked_120 rfl (by decide) rfl ?_
          obtain ⟨x27, ex27, h20⟩ := nm_elim h19
          refine rn_iinc (pc := 121) (v := x27) (lv' := [(4, .int x27), (3, .int x26), (7, .long x24), (5, .long x19), (0, rv (some t0)), (1, .int i1), (2, .int i2)]) 6 dX12_ranked_121 rfl (by rw [ex27]; rfl) (by decide) rfl ?_
          refine rn_goto (pc := 124) (tgt := 29) dX12_ranked_124 (by decide) ?_
          cases h20
          exact rn_sub [4, 5, 6, 1, 0] rfl (k0 _ rfl)
        · refine rn_zlt_f (pc := 97) 114 dX12_ranked_97 (by decide) c25 ?_
          refine rn_lload (pc := 100) 1 dX12_ranked_100 rfl ?_
          refine rn_lload (pc := 102) 0 dX12_ranked_102 rfl ?_
          refine rn_lcmp (pc := 104) dX12_ranked_104 ?_
          rcases if_elim h18 with ⟨c28, h21⟩ | ⟨c28, h21⟩
          · refine rn_zne_f (pc := 105) 118 dX12_ranked_105 (by decide) c28 ?_
            refine rn_iload (pc := 108) 6 dX12_ranked_108 rfl ?_
            refine rn_iload_n (pc := 110) 4 dX12_ranked_110 rfl rfl ?_
            rcases if_elim h21 with ⟨c29, h22⟩ | ⟨c29, h22⟩
            · refine rn_ige_f (pc := 111) 118 dX12_ranked_111 (by decide) c29 ?_
              refine rn_iconst (pc := 114) (v := 1) dX12_ranked_114 (by decide) ?_
              refine rn_goto (pc := 115) (tgt := 119) dX12_ranked_115 (by decide) ?_
              refine rn_iadd (pc := 119) dX12_ranked_119 ?_
              obtain ⟨x30, ex30, h23⟩ := nm_elim h22
              refine rn_topi ex30 ?_
              refine rn_istore_n (pc := 120) (lv' := [(3, .int x30), (7, .long x24), (5, .long x19), (0, rv (some t0)), (1, .int i1), (2, .int i2), (4, .int s4)]) dX12_ranked_120 rfl (by decide) rfl ?_
              obtain ⟨x31, ex31, h24⟩ := nm_elim h23
              refine rn_iinc (pc := 121) (v := x31) (lv' := [(4, .int x31), (3, .int x30), (7, .long x24), (5, .long x19), (0, rv (some t0)), (1, .int i1), (2, .int i2)]) 6 dX12_ranked_121 rfl (by rw [ex31]; rfl) (by decide) rfl ?_
              refine rn_goto (pc := 124) (tgt := 29) dX12_ranked_124 (by decide) ?_
              cases h24
              exact rn_sub [4, 5, 6, 1, 0] rfl (k0 _ rfl)
            · refine rn_ige_t (pc := 111) (tgt := 118) dX12_ranked_111 (by decide) c29 ?_
              refine rn_iconst (pc := 118) (v := 0) dX12_ranked_118 (by decide) ?_
              refine rn_iadd (pc := 119) dX12_ranked_119 ?_
              obtain ⟨x32, ex32, h25⟩ := nm_elim h22
              refine rn_topi ex32 ?_
              refine rn_istore_n (pc := 120) (lv' := [(3, .int x32), (7, .long x24), (5, .long x19), (0, rv (some t0)), (1, .int i1), (2, .int i2), (4, .int s4)]) dX12_ranked_120 rfl (by decide) rfl ?_
              obtain ⟨x33, ex33, h26⟩ := nm_elim h25
              refine rn_iinc (pc := 121) (v := x33) (lv' := [(4, .int x33), (3, .int x32), (7, .long x24), (5, .long x19), (0, rv (some t0)), (1, .int i1), (2, .int i2)]) 6 dX12_ranked_121 rfl (by rw [ex33]; rfl) (by decide) rfl ?_
              refine rn_goto (pc := 124) (tgt := 29) dX12_ranked_124 (by decide) ?_
              cases h26
              exact rn_sub [4, 5, 6, 1, 0] rfl (k0 _ rfl)
          · refine rn_zne_t (pc := 105) (tgt := 118) dX12_ranked_105 (by decide) c28 ?_
            refine rn_iconst (pc := 118) (v := 0) dX12_ranked_118 (by decide) ?_
            refine rn_iadd (pc := 119) dX12_ranked_119 ?_
            obtain ⟨x34, ex34, h27⟩ := nm_elim h21
            refine rn_topi ex34 ?_
            refine rn_istore_n (pc := 120) (lv' := [(3, .int x34), (7, .long x24), (5, .long x19), (0, rv (some t0)), (1, .int i1), (2, .int i2), (4, .int s4)]) dX12_ranked_120 rfl (by decide) rfl ?_
            obtain ⟨x35, ex35, h28⟩ := nm_elim h27
            refine rn_iinc (pc := 121) (v := x35) (lv' := [(4, .int x35), (3, .int x34), (7, .long x24), (5, .long x19), (0, rv (some t0)), (1, .int i1), (2, .int i2)]) 6 dX12_ranked_121 rfl (by rw [ex35]; rfl) (by decide) rfl ?_
            refine rn_goto (pc := 124) (tgt := 29) dX12_ranked_124 (by decide) ?_
            cases h28
            exact rn_sub [4, 5, 6, 1, 0] rfl (k0 _ rfl)
  · refine rn_ige_t (pc := 33) (tgt := 127) dX12_ranked_33 (by decide) c8 ?_
    cases h1
    exact rn_sub [0, 1, 2, 3] rfl (k1 _ rfl)
theorem lX12_ranked_29 {l : Launch} {G : Gt} {d : Nat} {t0 : Nat} {i1 : Int32} {i2 : Int32} {u : Mem} {N : Nat} {s0 : Int32 × Int32} {r : Int32} {o : Outcome} {u' : Mem} (h : lp (fun s : Int32 × Int32 => bX12_ranked_29 t0 i1 i2 u s.1 s.2) N s0 = some r) (k1 : Rn l G iX12_ranked (d + 6) 127 [(0, rv (some t0)), (1, .int i1), (2, .int i2), (3, .int r)] [] u o u') : Rn l G iX12_ranked (d + 6) 29 [(0, rv (some t0)), (1, .int i1), (2, .int i2), (3, .int s0.1), (4, .int s0.2)] [] u o u' :=
  lp_run (P := fun s : Int32 × Int32 => Rn l G iX12_ranked (d + 6) 29 [(0, rv (some t0)), (1, .int i1), (2, .int i2), (3, .int s.1), (4, .int s.2)] [] u o u') (E := fun r => Rn l G iX12_ranked (d + 6) 127 [(0, rv (some t0)), (1, .int i1), (2, .int i2), (3, .int r)] [] u o u') (fun s y hy k0 kE => btX12_ranked_29 hy (fun s' e => k0 s' e) (fun r e => kE r e)) N s0 r h k1
theorem btX12_ranked_6 {l : Launch} {G : Gt} {d : Nat} {t0 : Nat} {i1 : Int32} {u : Mem} {s2 : Int32} {y : (Int32) ⊕ ((Unit) ⊕ (Int32))} {o : Outcome} {u' : Mem} (h : bX12_ranked_6 t0 i1 u s2 = some y) (k0 : ∀ s' : Int32, y = .inl s' → Rn l G iX12_ranked (d + 6) 6 [(0, rv (some t0)), (1, .int i1), (2, .int s')] [] u o u') (k1 : ∀ r : Unit, y = .inr (.inl r) → Rn l G iX12_ranked (d + 6) 140 [] [] u o u') (k2 : ∀ r : Int32, y = .inr (.inr (r)) → Rn l G iX12_ranked (d + 6) 132 [(2, .int r)] [] u o u') : Rn l G iX12_ranked (d + 6) 6 [(0, rv (some t0)), (1, .int i1), (2, .int s2)] [] u o u' := by
  unfold bX12_ranked_6 at h
  refine rn_iload_n (pc := 6) 2 dX12_ranked_6 rfl rfl ?_
  refine rn_bipush (pc := 7) (v := 20) dX12_ranked_7 (by decide) ?_
  rcases if_elim h with ⟨c3, h1⟩ | ⟨c3, h1⟩
  · refine rn_ige_f (pc := 9) 140 dX12_ranked_9 (by decide) c3 ?_
    refine rn_aload_n (pc := 12) 0 dX12_ranked_12 rfl rfl ?_
    obtain ⟨v4, hv4, h2⟩ := bnd_some h1
    refine rn_getR (pc := 13) (k := 48) okX12 (by decide) tw_1038 rfl dX12_ranked_13 hv4 ?_
    refine rn_iload_n (pc := 16) 2 dX12_ranked_16 rfl rfl ?_
    obtain ⟨v5, hv5, h3⟩ := bnd_some h2
    refine rn_iald (pc := 17) dX12_ranked_17 hv5 ?_
    rcases if_elim h3 with ⟨c6, h4⟩ | ⟨c6, h4⟩
    · refine rn_zne_f (pc := 18) 24 dX12_ranked_18 (by decide) c6 ?_
      refine rn_goto (pc := 21) (tgt := 134) dX12_ranked_21 (by decide) ?_
      obtain ⟨x7, ex7, h5⟩ := nm_elim h4
      refine rn_iinc (pc := 134) (v := x7) (lv' := [(2, .int x7), (0, rv (some t0)), (1, .int i1)]) 2 dX12_ranked_134 rfl (by rw [ex7]; rfl) (by decide) rfl ?_
      refine rn_goto (pc := 137) (tgt := 6) dX12_ranked_137 (by decide) ?_
      cases h5
      exact rn_sub [1, 2, 0] rfl (k0 _ rfl)
    · refine rn_zne_t (pc := 18) (tgt := 24) dX12_ranked_18 (by decide) c6 ?_
      refine rn_iconst (pc := 24) (v := 0) dX12_ranked_24 (by decide) ?_
      refine rn_istore_n (pc := 25) (lv' := [(3, .int (0 : Int32)), (0, rv (some t0)), (1, .int i1), (2, .int s2)]) dX12_ranked_25 rfl (by decide) rfl ?_
      refine rn_iconst (pc := 26) (v := 0) dX12_ranked_26 (by decide) ?_
      refine rn_istore (pc := 27) (lv' := [(4, .int (0 : Int32)), (3, .int (0 : Int32)), (0, rv (some t0)), (1, .int i1), (2, .int s2)]) dX12_ranked_27 (by decide) rfl ?_
      obtain ⟨r36, hr36, h6⟩ := bnd_some h4
      refine rn_sub [2, 3, 4, 1, 0] rfl (lX12_ranked_29 hr36 ?_)
      refine rn_iload_n (pc := 127) 3 dX12_ranked_127 rfl rfl ?_
      refine rn_iload_n (pc := 128) 1 dX12_ranked_128 rfl rfl ?_
      rcases if_elim h6 with ⟨c37, h7⟩ | ⟨c37, h7⟩
      · refine rn_ine_f (pc := 129) 134 dX12_ranked_129 (by decide) c37 ?_
        cases h7
        exact rn_sub [2] rfl (k2 _ rfl)
      · refine rn_ine_t (pc := 129) (tgt := 134) dX12_ranked_129 (by decide) c37 ?_
        obtain ⟨x38, ex38, h8⟩ := nm_elim h7
        refine rn_iinc (pc := 134) (v := x38) (lv' := [(2, .int x38), (0, rv (some t0)), (1, .int i1), (3, .int r36)]) 2 dX12_ranked_134 rfl (by rw [ex38]; rfl) (by decide) rfl ?_
        refine rn_goto (pc := 137) (tgt := 6) dX12_ranked_137 (by decide) ?_
        cases h8
        exact rn_sub [1, 2, 0] rfl (k0 _ rfl)
  · refine rn_ige_t (pc := 9) (tgt := 140) dX12_ranked_9 (by decide) c3 ?_
    cases h1
    exact rn_sub [] rfl (k1 _ rfl)
theorem lX12_ranked_6 {l : Launch} {G : Gt} {d : Nat} {t0 : Nat} {i1 : Int32} {u : Mem} {N : Nat} {s0 : Int32} {r : (Unit) ⊕ (Int32)} {o : Outcome} {u' : Mem} (h : lp (fun s : Int32 => bX12_ranked_6 t0 i1 u s) N s0 = some r) (k1 : ∀ r' : Unit, r = .inl r' → Rn l G iX12_ranked (d + 6) 140 [] [] u o u') (k2 : ∀ r' : Int32, r = .inr (r') → Rn l G iX12_ranked (d + 6) 132 [(2, .int r')] [] u o u') : Rn l G iX12_ranked (d + 6) 6 [(0, rv (some t0)), (1, .int i1), (2, .int s0)] [] u o u' :=
  lp_run (P := fun s : Int32 => Rn l G iX12_ranked (d + 6) 6 [(0, rv (some t0)), (1, .int i1), (2, .int s)] [] u o u') (E := fun r => (∀ r' : Unit, r = .inl r' → Rn l G iX12_ranked (d + 6) 140 [] [] u o u') ∧ (∀ r' : Int32, r = .inr (r') → Rn l G iX12_ranked (d + 6) 132 [(2, .int r')] [] u o u')) (fun s y hy k0 kE => btX12_ranked_6 hy (fun s' e => k0 s' e) (fun r e => (kE _ e).1 r rfl) (fun r e => (kE _ e).2 r rfl)) N s0 r h ⟨k1, k2⟩
theorem tX12_ranked {l : Launch} {G : Gt} {d : Nat} {t0 : Nat} {p1 : Int32} {u : Mem} {y : Int32 × Mem} (h : fX12_ranked t0 p1 u = some y) : Rn l G iX12_ranked (d + 6) 0 [(0, rv (some t0)), (1, .int p1)] [] u (.returned (some (.int y.1))) y.2 := by
  unfold fX12_ranked at h
  refine rn_aload_n (pc := 0) 0 dX12_ranked_0 rfl rfl ?_
  obtain ⟨b1, hb1, h1⟩ := bnd_some h
  obtain ⟨qb1, kb1⟩ := chk_elim hb1
  cases qb1
  obtain ⟨u2, hu2, h2⟩ := bnd_some h1
  refine rn_callV (pc := 1) (n := 0) (As := []) (rest := []) (eX12_findMeans (d := d + 0) hu2) (by omega) okX12 kb1 tw_1309 tw_79 tw_1307 tw_1308 tw_54 (by decide +kernel) rfl (Nat.le_of_ble_eq_true rfl) dX12_ranked_1 rfl ?_
  refine rn_iconst (pc := 4) (v := 0) dX12_ranked_4 (by decide) ?_
  refine rn_istore_n (pc := 5) (lv' := [(2, .int (0 : Int32)), (0, rv (some t0)), (1, .int p1)]) dX12_ranked_5 rfl (by decide) rfl ?_
  obtain ⟨r39, hr39, h3⟩ := bnd_some h2
  rcases r39 with r40 | r41
  · refine rn_sub [1, 2, 0] rfl (lX12_ranked_6 hr39 (fun _ hq => ?_) (fun _ hq => by cases hq))
    cases hq
    have h4 := sumE_l h3
    refine rn_iconst (pc := 140) (v := -1) dX12_ranked_140 (by decide) ?_
    cases h4
    exact rn_iret (pc := 141) rfl dX12_ranked_141
  · refine rn_sub [1, 2, 0] rfl (lX12_ranked_6 hr39 (fun _ hq => by cases hq) (fun _ hq => ?_))
    cases hq
    have h5 := sumE_r h3
    refine rn_iload_n (pc := 132) 0 dX12_ranked_132 rfl rfl ?_
    cases h5
    exact rn_iret (pc := 133) rfl dX12_ranked_133
theorem eX12_ranked {l : Launch} {G : Gt} {d : Nat} {t0 : Nat} {p1 : Int32} {u : Mem} {y : Int32 × Mem} (h : fX12_ranked t0 p1 u = some y) : Ex l G iX12_ranked (d + 6) [rv (some t0), .int p1] u (.returned (some (.int y.1))) y.2 := Ex.of (by decide +kernel) (by decide) (Nat.le_of_ble_eq_true rfl) rfl (tX12_ranked h)
theorem tX12_expects {l : Launch} {G : Gt} {d : Nat} {t0 : Nat} {p1 : Int32} {p2 : Int32} {u : Mem} {y : Int32} (h : fX12_expects t0 p1 p2 u = some y) : Rn l G iX12_expects d 0 [(0, rv (some t0)), (1, .int p1), (2, .int p2)] [] u (.returned (some (.int y))) u := by
  unfold fX12_expects at h
  refine rn_iload_n (pc := 0) 1 dX12_expects_0 rfl rfl ?_
  refine rn_aload_n (pc := 1) 0 dX12_expects_1 rfl rfl ?_
  obtain ⟨v1, hv1, h1⟩ := bnd_some h
  refine rn_getR (pc := 2) (k := 10) okX12 (by decide) tw_1000 rfl dX12_expects_2 hv1 ?_
  refine rn_iload_n (pc := 5) 2 dX12_expects_5 rfl rfl ?_
  obtain ⟨v2, hv2, h2⟩ := bnd_some h1
  refine rn_iald (pc := 6) dX12_expects_6 hv2 ?_
  refine rn_imul (pc := 7) dX12_expects_7 ?_
  refine rn_bipush (pc := 8) (v := 10) dX12_expects_8 (by decide) ?_
  refine rn_iload_n (pc := 10) 1 dX12_expects_10 rfl rfl ?_
  refine rn_isub (pc := 11) dX12_expects_11 ?_
  refine rn_aload_n (pc := 12) 0 dX12_expects_12 rfl rfl ?_
  obtain ⟨v3, hv3, h3⟩ := bnd_some h2
  refine rn_getR (pc := 13) (k := 11) okX12 (by decide) tw_1001 rfl dX12_expects_13 hv3 ?_
  refine rn_iload_n (pc := 16) 2 dX12_expects_16 rfl rfl ?_
  obtain ⟨v4, hv4, h4⟩ := bnd_some h3
  refine rn_iald (pc := 17) dX12_expects_17 hv4 ?_
  refine rn_imul (pc := 18) dX12_expects_18 ?_
  refine rn_iadd (pc := 19) dX12_expects_19 ?_
  cases h4
  exact rn_iret (pc := 20) rfl dX12_expects_20
theorem eX12_expects {l : Launch} {G : Gt} {d : Nat} {t0 : Nat} {p1 : Int32} {p2 : Int32} {u : Mem} {y : Int32} (h : fX12_expects t0 p1 p2 u = some y) : Ex l G iX12_expects d [rv (some t0), .int p1, .int p2] u (.returned (some (.int y))) u := Ex.of (by decide +kernel) (by decide) (Nat.le_of_ble_eq_true rfl) rfl (tX12_expects h)
theorem btX12_paysFor_4 {l : Launch} {G : Gt} {d : Nat} {t0 : Nat} {i1 : Int32} {u : Mem} {s2 : Int32} {s3 : Int32} {y : (Int32 × Int32) ⊕ (Int32)} {o : Outcome} {u' : Mem} (h : bX12_paysFor_4 t0 i1 u s2 s3 = some y) (k0 : ∀ s' : Int32 × Int32, y = .inl s' → Rn l G iX12_paysFor (d + 1) 4 [(0, rv (some t0)), (1, .int i1), (2, .int s'.1), (3, .int s'.2)] [] u o u') (k1 : ∀ r : Int32, y = .inr (r) → Rn l G iX12_paysFor (d + 1) 33 [(2, .int r)] [] u o u') : Rn l G iX12_paysFor (d + 1) 4 [(0, rv (some t0)), (1, .int i1), (2, .int s2), (3, .int s3)] [] u o u' := by
  unfold bX12_paysFor_4 at h
  refine rn_iload_n (pc := 4) 3 dX12_paysFor_4 rfl rfl ?_
  refine rn_bipush (pc := 5) (v := 11) dX12_paysFor_5 (by decide) ?_
  rcases if_elim h with ⟨c1, h1⟩ | ⟨c1, h1⟩
  · refine rn_ige_f (pc := 7) 33 dX12_paysFor_7 (by decide) c1 ?_
    refine rn_aload_n (pc := 10) 0 dX12_paysFor_10 rfl rfl ?_
    refine rn_iload_n (pc := 11) 1 dX12_paysFor_11 rfl rfl ?_
    refine rn_iload_n (pc := 12) 3 dX12_paysFor_12 rfl rfl ?_
    obtain ⟨b2, hb2, h2⟩ := bnd_some h1
    obtain ⟨qb2, kb2⟩ := chk_elim hb2
    cases qb2
    obtain ⟨v3, hv3, h3⟩ := bnd_some h2
    refine rn_callV (pc := 13) (n := 2) (As := [.int i1, .int s3]) (rest := []) (eX12_expects (d := d + 0) hv3) (by omega) okX12 kb2 tw_1319 tw_79 tw_1317 tw_1318 tw_56 (by decide +kernel) rfl (Nat.le_of_ble_eq_true rfl) dX12_paysFor_13 rfl ?_
    refine rn_aload_n (pc := 16) 0 dX12_paysFor_16 rfl rfl ?_
    refine rn_iload_n (pc := 17) 1 dX12_paysFor_17 rfl rfl ?_
    refine rn_iload_n (pc := 18) 2 dX12_paysFor_18 rfl rfl ?_
    obtain ⟨b4, hb4, h4⟩ := bnd_some h3
    obtain ⟨qb4, kb4⟩ := chk_elim hb4
    cases qb4
    obtain ⟨v5, hv5, h5⟩ := bnd_some h4
    refine rn_callV (pc := 19) (n := 2) (As := [.int i1, .int s2]) (rest := [.int v3]) (eX12_expects (d := d + 0) hv5) (by omega) okX12 kb4 tw_1319 tw_79 tw_1317 tw_1318 tw_56 (by decide +kernel) rfl (Nat.le_of_ble_eq_true rfl) dX12_paysFor_19 rfl ?_
    rcases if_elim h5 with ⟨c6, h6⟩ | ⟨c6, h6⟩
    · refine rn_ige_f (pc := 22) 27 dX12_paysFor_22 (by decide) c6 ?_
      refine rn_iload_n (pc := 25) 3 dX12_paysFor_25 rfl rfl ?_
      refine rn_istore_n (pc := 26) (lv' := [(2, .int s3), (0, rv (some t0)), (1, .int i1), (3, .int s3)]) dX12_paysFor_26 rfl (by decide) rfl ?_
      obtain ⟨x7, ex7, h7⟩ := nm_elim h6
      refine rn_iinc (pc := 27) (v := x7) (lv' := [(3, .int x7), (2, .int s3), (0, rv (some t0)), (1, .int i1)]) 3 dX12_paysFor_27 rfl (by rw [ex7]; rfl) (by decide) rfl ?_
      refine rn_goto (pc := 30) (tgt := 4) dX12_paysFor_30 (by decide) ?_
      cases h7
      exact rn_sub [2, 3, 1, 0] rfl (k0 _ rfl)
    · refine rn_ige_t (pc := 22) (tgt := 27) dX12_paysFor_22 (by decide) c6 ?_
      obtain ⟨x8, ex8, h8⟩ := nm_elim h6
      refine rn_iinc (pc := 27) (v := x8) (lv' := [(3, .int x8), (0, rv (some t0)), (1, .int i1), (2, .int s2)]) 3 dX12_paysFor_27 rfl (by rw [ex8]; rfl) (by decide) rfl ?_
      refine rn_goto (pc := 30) (tgt := 4) dX12_paysFor_30 (by decide) ?_
      cases h8
      exact rn_sub [1, 2, 3, 0] rfl (k0 _ rfl)
  · refine rn_ige_t (pc := 7) (tgt := 33) dX12_paysFor_7 (by decide) c1 ?_
    cases h1
    exact rn_sub [2] rfl (k1 _ rfl)
theorem lX12_paysFor_4 {l : Launch} {G : Gt} {d : Nat} {t0 : Nat} {i1 : Int32} {u : Mem} {N : Nat} {s0 : Int32 × Int32} {r : Int32} {o : Outcome} {u' : Mem} (h : lp (fun s : Int32 × Int32 => bX12_paysFor_4 t0 i1 u s.1 s.2) N s0 = some r) (k1 : Rn l G iX12_paysFor (d + 1) 33 [(2, .int r)] [] u o u') : Rn l G iX12_paysFor (d + 1) 4 [(0, rv (some t0)), (1, .int i1), (2, .int s0.1), (3, .int s0.2)] [] u o u' :=
  lp_run (P := fun s : Int32 × Int32 => Rn l G iX12_paysFor (d + 1) 4 [(0, rv (some t0)), (1, .int i1), (2, .int s.1), (3, .int s.2)] [] u o u') (E := fun r => Rn l G iX12_paysFor (d + 1) 33 [(2, .int r)] [] u o u') (fun s y hy k0 kE => btX12_paysFor_4 hy (fun s' e => k0 s' e) (fun r e => kE r e)) N s0 r h k1
theorem tX12_paysFor {l : Launch} {G : Gt} {d : Nat} {t0 : Nat} {p1 : Int32} {u : Mem} {y : Int32} (h : fX12_paysFor t0 p1 u = some y) : Rn l G iX12_paysFor (d + 1) 0 [(0, rv (some t0)), (1, .int p1)] [] u (.returned (some (.int y))) u := by
  unfold fX12_paysFor at h
  refine rn_iconst (pc := 0) (v := 0) dX12_paysFor_0 (by decide) ?_
  refine rn_istore_n (pc := 1) (lv' := [(2, .int (0 : Int32)), (0, rv (some t0)), (1, .int p1)]) dX12_paysFor_1 rfl (by decide) rfl ?_
  refine rn_iconst (pc := 2) (v := 1) dX12_paysFor_2 (by decide) ?_
  refine rn_istore_n (pc := 3) (lv' := [(3, .int (1 : Int32)), (2, .int (0 : Int32)), (0, rv (some t0)), (1, .int p1)]) dX12_paysFor_3 rfl (by decide) rfl ?_
  obtain ⟨r9, hr9, h1⟩ := bnd_some h
  refine rn_sub [2, 3, 1, 0] rfl (lX12_paysFor_4 hr9 ?_)
  refine rn_iload_n (pc := 33) 0 dX12_paysFor_33 rfl rfl ?_
  cases h1
  exact rn_iret (pc := 34) rfl dX12_paysFor_34
theorem eX12_paysFor {l : Launch} {G : Gt} {d : Nat} {t0 : Nat} {p1 : Int32} {u : Mem} {y : Int32} (h : fX12_paysFor t0 p1 u = some y) : Ex l G iX12_paysFor (d + 1) [rv (some t0), .int p1] u (.returned (some (.int y))) u := Ex.of (by decide +kernel) (by decide) (Nat.le_of_ble_eq_true rfl) rfl (tX12_paysFor h)
theorem tX12_pays {l : Launch} {G : Gt} {d : Nat} {t0 : Nat} {p1 : Int32} {u : Mem} {y : Int32} (h : fX12_pays t0 p1 u = some y) : Rn l G iX12_pays (d + 2) 0 [(0, rv (some t0)), (1, .int p1)] [] u (.returned (some (.int y))) u := by
  unfold fX12_pays at h
  refine rn_iload_n (pc := 0) 1 dX12_pays_0 rfl rfl ?_
  refine rn_i2l (pc := 1) dX12_pays_1 ?_
  refine rn_lconst (pc := 2) (v := 0) dX12_pays_2 (by decide) ?_
  refine rn_ldc2 (pc := 3) tw_1222 dX12_pays_3 ?_
  obtain ⟨v1, hv1, h1⟩ := bnd_some h
  refine rn_callS (pc := 6) (n := 3) (As := [.long (Int32.toInt64 p1), .long (0 : Int64), .long (10 : Int64)]) (rest := []) (eX12_in (d := d + 1) hv1) (by omega) tw_1174 tw_79 tw_1172 tw_1173 (by decide +kernel) rfl (Nat.le_of_ble_eq_true rfl) dX12_pays_6 rfl ?_
  rcases if_elim h1 with ⟨c2, h2⟩ | ⟨c2, h2⟩
  · refine rn_zeq_t (pc := 9) (tgt := 20) dX12_pays_9 (by decide) c2 ?_
    refine rn_bipush (pc := 20) (v := -2) dX12_pays_20 (by decide) ?_
    cases h2
    exact rn_iret (pc := 22) rfl dX12_pays_22
  · refine rn_zeq_f (pc := 9) 20 dX12_pays_9 (by decide) c2 ?_
    refine rn_aload_n (pc := 12) 0 dX12_pays_12 rfl rfl ?_
    refine rn_iload_n (pc := 13) 1 dX12_pays_13 rfl rfl ?_
    obtain ⟨b3, hb3, h3⟩ := bnd_some h2
    obtain ⟨qb3, kb3⟩ := chk_elim hb3
    cases qb3
    obtain ⟨v4, hv4, h4⟩ := bnd_some h3
    refine rn_callV (pc := 14) (n := 1) (As := [.int p1]) (rest := []) (eX12_paysFor (d := d + 0) hv4) (by omega) okX12 kb3 tw_1316 tw_79 tw_1314 tw_1315 tw_55 (by decide +kernel) rfl (Nat.le_of_ble_eq_true rfl) dX12_pays_14 rfl ?_
    refine rn_goto (pc := 17) (tgt := 22) dX12_pays_17 (by decide) ?_
    cases h4
    exact rn_iret (pc := 22) rfl dX12_pays_22
theorem eX12_pays {l : Launch} {G : Gt} {d : Nat} {t0 : Nat} {p1 : Int32} {u : Mem} {y : Int32} (h : fX12_pays t0 p1 u = some y) : Ex l G iX12_pays (d + 2) [rv (some t0), .int p1] u (.returned (some (.int y))) u := Ex.of (by decide +kernel) (by decide) (Nat.le_of_ble_eq_true rfl) rfl (tX12_pays h)
theorem btX12_honest_10 {l : Launch} {G : Gt} {d : Nat} {t0 : Nat} {i1 : Int32} {u : Mem} {s2 : Int32} {y : (Int32) ⊕ ((Unit) ⊕ (Unit))} {o : Outcome} {u' : Mem} (h : bX12_honest_10 t0 i1 u s2 = some y) (k0 : ∀ s' : Int32, y = .inl s' → Rn l G iX12_honest (d + 1) 10 [(0, rv (some t0)), (1, .int i1), (2, .int s')] [] u o u') (k1 : ∀ r : Unit, y = .inr (.inl r) → Rn l G iX12_honest (d + 1) 44 [(0, rv (some t0)), (1, .int i1)] [] u o u') (k2 : ∀ r : Unit, y = .inr (.inr (r)) → Rn l G iX12_honest (d + 1) 36 [(1, .int i1)] [] u o u') : Rn l G iX12_honest (d + 1) 10 [(0, rv (some t0)), (1, .int i1), (2, .int s2)] [] u o u' := by
  unfold bX12_honest_10 at h
  refine rn_iload_n (pc := 10) 2 dX12_honest_10 rfl rfl ?_
  refine rn_bipush (pc := 11) (v := 11) dX12_honest_11 (by decide) ?_
  rcases if_elim h with ⟨c2, h1⟩ | ⟨c2, h1⟩
  · refine rn_ige_f (pc := 13) 44 dX12_honest_13 (by decide) c2 ?_
    refine rn_iload_n (pc := 16) 2 dX12_honest_16 rfl rfl ?_
    refine rn_iload_n (pc := 17) 1 dX12_honest_17 rfl rfl ?_
    rcases if_elim h1 with ⟨c3, h2⟩ | ⟨c3, h2⟩
    · refine rn_ieq_t (pc := 18) (tgt := 38) dX12_honest_18 (by decide) c3 ?_
      obtain ⟨x4, ex4, h3⟩ := nm_elim h2
      refine rn_iinc (pc := 38) (v := x4) (lv' := [(2, .int x4), (0, rv (some t0)), (1, .int i1)]) 2 dX12_honest_38 rfl (by rw [ex4]; rfl) (by decide) rfl ?_
      refine rn_goto (pc := 41) (tgt := 10) dX12_honest_41 (by decide) ?_
      cases h3
      exact rn_sub [1, 2, 0] rfl (k0 _ rfl)
    · refine rn_ieq_f (pc := 18) 38 dX12_honest_18 (by decide) c3 ?_
      refine rn_aload_n (pc := 21) 0 dX12_honest_21 rfl rfl ?_
      refine rn_iload_n (pc := 22) 1 dX12_honest_22 rfl rfl ?_
      refine rn_iload_n (pc := 23) 2 dX12_honest_23 rfl rfl ?_
      obtain ⟨b5, hb5, h4⟩ := bnd_some h2
      obtain ⟨qb5, kb5⟩ := chk_elim hb5
      cases qb5
      obtain ⟨v6, hv6, h5⟩ := bnd_some h4
      refine rn_callV (pc := 24) (n := 2) (As := [.int i1, .int s2]) (rest := []) (eX12_expects (d := d + 0) hv6) (by omega) okX12 kb5 tw_1319 tw_79 tw_1317 tw_1318 tw_56 (by decide +kernel) rfl (Nat.le_of_ble_eq_true rfl) dX12_honest_24 rfl ?_
      refine rn_aload_n (pc := 27) 0 dX12_honest_27 rfl rfl ?_
      refine rn_iload_n (pc := 28) 1 dX12_honest_28 rfl rfl ?_
      refine rn_iload_n (pc := 29) 1 dX12_honest_29 rfl rfl ?_
      obtain ⟨b7, hb7, h6⟩ := bnd_some h5
      obtain ⟨qb7, kb7⟩ := chk_elim hb7
      cases qb7
      obtain ⟨v8, hv8, h7⟩ := bnd_some h6
      refine rn_callV (pc := 30) (n := 2) (As := [.int i1, .int i1]) (rest := [.int v6]) (eX12_expects (d := d + 0) hv8) (by omega) okX12 kb7 tw_1319 tw_79 tw_1317 tw_1318 tw_56 (by decide +kernel) rfl (Nat.le_of_ble_eq_true rfl) dX12_honest_30 rfl ?_
      rcases if_elim h7 with ⟨c9, h8⟩ | ⟨c9, h8⟩
      · refine rn_igt_t (pc := 33) (tgt := 38) dX12_honest_33 (by decide) c9 ?_
        obtain ⟨x10, ex10, h9⟩ := nm_elim h8
        refine rn_iinc (pc := 38) (v := x10) (lv' := [(2, .int x10), (0, rv (some t0)), (1, .int i1)]) 2 dX12_honest_38 rfl (by rw [ex10]; rfl) (by decide) rfl ?_
        refine rn_goto (pc := 41) (tgt := 10) dX12_honest_41 (by decide) ?_
        cases h9
        exact rn_sub [1, 2, 0] rfl (k0 _ rfl)
      · refine rn_igt_f (pc := 33) 38 dX12_honest_33 (by decide) c9 ?_
        cases h8
        exact rn_sub [1] rfl (k2 _ rfl)
  · refine rn_ige_t (pc := 13) (tgt := 44) dX12_honest_13 (by decide) c2 ?_
    cases h1
    exact rn_sub [0, 1] rfl (k1 _ rfl)
theorem lX12_honest_10 {l : Launch} {G : Gt} {d : Nat} {t0 : Nat} {i1 : Int32} {u : Mem} {N : Nat} {s0 : Int32} {r : (Unit) ⊕ (Unit)} {o : Outcome} {u' : Mem} (h : lp (fun s : Int32 => bX12_honest_10 t0 i1 u s) N s0 = some r) (k1 : ∀ r' : Unit, r = .inl r' → Rn l G iX12_honest (d + 1) 44 [(0, rv (some t0)), (1, .int i1)] [] u o u') (k2 : ∀ r' : Unit, r = .inr (r') → Rn l G iX12_honest (d + 1) 36 [(1, .int i1)] [] u o u') : Rn l G iX12_honest (d + 1) 10 [(0, rv (some t0)), (1, .int i1), (2, .int s0)] [] u o u' :=
  lp_run (P := fun s : Int32 => Rn l G iX12_honest (d + 1) 10 [(0, rv (some t0)), (1, .int i1), (2, .int s)] [] u o u') (E := fun r => (∀ r' : Unit, r = .inl r' → Rn l G iX12_honest (d + 1) 44 [(0, rv (some t0)), (1, .int i1)] [] u o u') ∧ (∀ r' : Unit, r = .inr (r') → Rn l G iX12_honest (d + 1) 36 [(1, .int i1)] [] u o u')) (fun s y hy k0 kE => btX12_honest_10 hy (fun s' e => k0 s' e) (fun r e => (kE _ e).1 r rfl) (fun r e => (kE _ e).2 r rfl)) N s0 r h ⟨k1, k2⟩
theorem btX12_honest_2 {l : Launch} {G : Gt} {d : Nat} {t0 : Nat} {u : Mem} {s1 : Int32} {y : (Int32) ⊕ ((Unit) ⊕ (Int32))} {o : Outcome} {u' : Mem} (h : bX12_honest_2 t0 u s1 = some y) (k0 : ∀ s' : Int32, y = .inl s' → Rn l G iX12_honest (d + 1) 2 [(0, rv (some t0)), (1, .int s')] [] u o u') (k1 : ∀ r : Unit, y = .inr (.inl r) → Rn l G iX12_honest (d + 1) 50 [] [] u o u') (k2 : ∀ r : Int32, y = .inr (.inr (r)) → Rn l G iX12_honest (d + 1) 36 [(1, .int r)] [] u o u') : Rn l G iX12_honest (d + 1) 2 [(0, rv (some t0)), (1, .int s1)] [] u o u' := by
  unfold bX12_honest_2 at h
  refine rn_iload_n (pc := 2) 1 dX12_honest_2 rfl rfl ?_
  refine rn_bipush (pc := 3) (v := 11) dX12_honest_3 (by decide) ?_
  rcases if_elim h with ⟨c1, h1⟩ | ⟨c1, h1⟩
  · refine rn_ige_f (pc := 5) 50 dX12_honest_5 (by decide) c1 ?_
    refine rn_iconst (pc := 8) (v := 0) dX12_honest_8 (by decide) ?_
    refine rn_istore_n (pc := 9) (lv' := [(2, .int (0 : Int32)), (0, rv (some t0)), (1, .int s1)]) dX12_honest_9 rfl (by decide) rfl ?_
    obtain ⟨r11, hr11, h2⟩ := bnd_some h1
    rcases r11 with r12 | r13
    · refine rn_sub [1, 2, 0] rfl (lX12_honest_10 hr11 (fun _ hq => ?_) (fun _ hq => by cases hq))
      cases hq
      have h3 := sumE_l h2
      obtain ⟨x14, ex14, h4⟩ := nm_elim h3
      refine rn_iinc (pc := 44) (v := x14) (lv' := [(1, .int x14), (0, rv (some t0))]) 1 dX12_honest_44 rfl (by rw [ex14]; rfl) (by decide) rfl ?_
      refine rn_goto (pc := 47) (tgt := 2) dX12_honest_47 (by decide) ?_
      cases h4
      exact rn_sub [1, 0] rfl (k0 _ rfl)
    · refine rn_sub [1, 2, 0] rfl (lX12_honest_10 hr11 (fun _ hq => by cases hq) (fun _ hq => ?_))
      cases hq
      have h5 := sumE_r h2
      cases h5
      exact rn_sub [0] rfl (k2 _ rfl)
  · refine rn_ige_t (pc := 5) (tgt := 50) dX12_honest_5 (by decide) c1 ?_
    cases h1
    exact rn_sub [] rfl (k1 _ rfl)
theorem lX12_honest_2 {l : Launch} {G : Gt} {d : Nat} {t0 : Nat} {u : Mem} {N : Nat} {s0 : Int32} {r : (Unit) ⊕ (Int32)} {o : Outcome} {u' : Mem} (h : lp (fun s : Int32 => bX12_honest_2 t0 u s) N s0 = some r) (k1 : ∀ r' : Unit, r = .inl r' → Rn l G iX12_honest (d + 1) 50 [] [] u o u') (k2 : ∀ r' : Int32, r = .inr (r') → Rn l G iX12_honest (d + 1) 36 [(1, .int r')] [] u o u') : Rn l G iX12_honest (d + 1) 2 [(0, rv (some t0)), (1, .int s0)] [] u o u' :=
  lp_run (P := fun s : Int32 => Rn l G iX12_honest (d + 1) 2 [(0, rv (some t0)), (1, .int s)] [] u o u') (E := fun r => (∀ r' : Unit, r = .inl r' → Rn l G iX12_honest (d + 1) 50 [] [] u o u') ∧ (∀ r' : Int32, r = .inr (r') → Rn l G iX12_honest (d + 1) 36 [(1, .int r')] [] u o u')) (fun s y hy k0 kE => btX12_honest_2 hy (fun s' e => k0 s' e) (fun r e => (kE _ e).1 r rfl) (fun r e => (kE _ e).2 r rfl)) N s0 r h ⟨k1, k2⟩
theorem tX12_honest {l : Launch} {G : Gt} {d : Nat} {t0 : Nat} {u : Mem} {y : Int32} (h : fX12_honest t0 u = some y) : Rn l G iX12_honest (d + 1) 0 [(0, rv (some t0))] [] u (.returned (some (.int y))) u := by
  unfold fX12_honest at h
  refine rn_iconst (pc := 0) (v := 0) dX12_honest_0 (by decide) ?_
  refine rn_istore_n (pc := 1) (lv' := [(1, .int (0 : Int32)), (0, rv (some t0))]) dX12_honest_1 rfl (by decide) rfl ?_
  obtain ⟨r15, hr15, h1⟩ := bnd_some h
  rcases r15 with r16 | r17
  · refine rn_sub [1, 0] rfl (lX12_honest_2 hr15 (fun _ hq => ?_) (fun _ hq => by cases hq))
    cases hq
    have h2 := sumE_l h1
    refine rn_iconst (pc := 50) (v := -1) dX12_honest_50 (by decide) ?_
    cases h2
    exact rn_iret (pc := 51) rfl dX12_honest_51
  · refine rn_sub [1, 0] rfl (lX12_honest_2 hr15 (fun _ hq => by cases hq) (fun _ hq => ?_))
    cases hq
    have h3 := sumE_r h1
    refine rn_iload_n (pc := 36) 0 dX12_honest_36 rfl rfl ?_
    cases h3
    exact rn_iret (pc := 37) rfl dX12_honest_37
theorem eX12_honest {l : Launch} {G : Gt} {d : Nat} {t0 : Nat} {u : Mem} {y : Int32} (h : fX12_honest t0 u = some y) : Ex l G iX12_honest (d + 1) [rv (some t0)] u (.returned (some (.int y))) u := Ex.of (by decide +kernel) (by decide) (Nat.le_of_ble_eq_true rfl) rfl (tX12_honest h)
theorem tX12_copies {l : Launch} {G : Gt} {d : Nat} {t0 : Nat} {p1 : Int32} {p2 : Int32} {u : Mem} {y : Int32 × Mem} (h : fX12_copies t0 p1 p2 u = some y) : Rn l G iX12_copies (d + 2) 0 [(0, rv (some t0)), (1, .int p1), (2, .int p2)] [] u (.returned (some (.int y.1))) y.2 := by
  unfold fX12_copies at h
  refine rn_iload_n (pc := 0) 1 dX12_copies_0 rfl rfl ?_
  obtain ⟨v1, hv1, h1⟩ := bnd_some h
  refine rn_callS (pc := 1) (n := 1) (As := [.int p1]) (rest := []) (eX12_isGuesser (d := d + 0) hv1) (by omega) tw_1248 tw_79 tw_1246 tw_1247 (by decide +kernel) rfl (Nat.le_of_ble_eq_true rfl) dX12_copies_1 rfl ?_
  rcases if_elim h1 with ⟨c2, h2⟩ | ⟨c2, h2⟩
  · refine rn_zeq_t (pc := 4) (tgt := 19) dX12_copies_4 (by decide) c2 ?_
    refine rn_bipush (pc := 19) (v := -2) dX12_copies_19 (by decide) ?_
    cases h2
    exact rn_iret (pc := 21) rfl dX12_copies_21
  · refine rn_zeq_f (pc := 4) 19 dX12_copies_4 (by decide) c2 ?_
    refine rn_iload_n (pc := 7) 2 dX12_copies_7 rfl rfl ?_
    obtain ⟨v3, hv3, h3⟩ := bnd_some h2
    refine rn_callS (pc := 8) (n := 1) (As := [.int p2]) (rest := []) (eX12_isGuesser (d := d + 0) hv3) (by omega) tw_1248 tw_79 tw_1246 tw_1247 (by decide +kernel) rfl (Nat.le_of_ble_eq_true rfl) dX12_copies_8 rfl ?_
    rcases if_elim h3 with ⟨c4, h4⟩ | ⟨c4, h4⟩
    · refine rn_zeq_t (pc := 11) (tgt := 19) dX12_copies_11 (by decide) c4 ?_
      refine rn_bipush (pc := 19) (v := -2) dX12_copies_19 (by decide) ?_
      cases h4
      exact rn_iret (pc := 21) rfl dX12_copies_21
    · refine rn_zeq_f (pc := 11) 19 dX12_copies_11 (by decide) c4 ?_
      refine rn_iload_n (pc := 14) 1 dX12_copies_14 rfl rfl ?_
      refine rn_iload_n (pc := 15) 2 dX12_copies_15 rfl rfl ?_
      rcases if_elim h4 with ⟨c5, h5⟩ | ⟨c5, h5⟩
      · refine rn_ine_f (pc := 16) 22 dX12_copies_16 (by decide) c5 ?_
        refine rn_bipush (pc := 19) (v := -2) dX12_copies_19 (by decide) ?_
        cases h5
        exact rn_iret (pc := 21) rfl dX12_copies_21
      · refine rn_ine_t (pc := 16) (tgt := 22) dX12_copies_16 (by decide) c5 ?_
        refine rn_aload_n (pc := 22) 0 dX12_copies_22 rfl rfl ?_
        obtain ⟨v6, hv6, h6⟩ := bnd_some h5
        refine rn_getI (pc := 23) (k := 2) okX12 (by decide) tw_992 rfl dX12_copies_23 hv6 ?_
        refine rn_iconst (pc := 26) (v := -1) dX12_copies_26 (by decide) ?_
        rcases if_elim h6 with ⟨c7, h7⟩ | ⟨c7, h7⟩
        · refine rn_ine_f (pc := 27) 33 dX12_copies_27 (by decide) c7 ?_
          refine rn_bipush (pc := 30) (v := -4) dX12_copies_30 (by decide) ?_
          cases h7
          exact rn_iret (pc := 32) rfl dX12_copies_32
        · refine rn_ine_t (pc := 27) (tgt := 33) dX12_copies_27 (by decide) c7 ?_
          refine rn_aload_n (pc := 33) 0 dX12_copies_33 rfl rfl ?_
          obtain ⟨b8, hb8, h8⟩ := bnd_some h7
          obtain ⟨qb8, kb8⟩ := chk_elim hb8
          cases qb8
          obtain ⟨u9, hu9, h9⟩ := bnd_some h8
          refine rn_callV (pc := 34) (n := 0) (As := []) (rest := []) (eX12_findCopies (d := d + 1) hu9) (by omega) okX12 kb8 tw_1330 tw_79 tw_1328 tw_1329 tw_57 (by decide +kernel) rfl (Nat.le_of_ble_eq_true rfl) dX12_copies_34 rfl ?_
          refine rn_aload_n (pc := 37) 0 dX12_copies_37 rfl rfl ?_
          refine rn_iload_n (pc := 38) 1 dX12_copies_38 rfl rfl ?_
          refine rn_iload_n (pc := 39) 2 dX12_copies_39 rfl rfl ?_
          refine rn_sipush (pc := 40) (v := 999) dX12_copies_40 (by decide) ?_
          obtain ⟨b10, hb10, h10⟩ := bnd_some h9
          obtain ⟨qb10, kb10⟩ := chk_elim hb10
          cases qb10
          obtain ⟨v11, hv11, h11⟩ := bnd_some h10
          refine rn_callV (pc := 43) (n := 3) (As := [.int p1, .int p2, .int (999 : Int32)]) (rest := []) (eX12_copiesOf (d := d + 1) hv11) (by omega) okX12 kb10 tw_1333 tw_79 tw_1331 tw_1332 tw_58 (by decide +kernel) rfl (Nat.le_of_ble_eq_true rfl) dX12_copies_43 rfl ?_
          cases h11
          exact rn_iret (pc := 46) rfl dX12_copies_46
theorem eX12_copies {l : Launch} {G : Gt} {d : Nat} {t0 : Nat} {p1 : Int32} {p2 : Int32} {u : Mem} {y : Int32 × Mem} (h : fX12_copies t0 p1 p2 u = some y) : Ex l G iX12_copies (d + 2) [rv (some t0), .int p1, .int p2] u (.returned (some (.int y.1))) y.2 := Ex.of (by decide +kernel) (by decide) (Nat.le_of_ble_eq_true rfl) rfl (tX12_copies h)
theorem btX12_weightOn_17 {l : Launch} {G : Gt} {d : Nat} {t0 : Nat} {i1 : Int32} {i2 : Int32} {u : Mem} {s3 : Int32} {s4 : Int32} {s5 : Int32} {y : (Int32 × Int32 × Int32) ⊕ (Int32 × Int32)} {o : Outcome} {u' : Mem} (h : bX12_weightOn_17 t0 i1 i2 u s3 s4 s5 = some y) (k0 : ∀ s' : Int32 × Int32 × Int32, y = .inl s' → Rn l G iX12_weightOn (d + 2) 17 [(0, rv (some t0)), (1, .int i1), (2, .int i2), (3, .int s'.1), (4, .int s'.2.1), (5, .int s'.2.2)] [] u o u') (k1 : ∀ r : Int32 × Int32, y = .inr (r) → Rn l G iX12_weightOn (d + 2) 86 [(3, .int r.1), (4, .int r.2)] [] u o u') : Rn l G iX12_weightOn (d + 2) 17 [(0, rv (some t0)), (1, .int i1), (2, .int i2), (3, .int s3), (4, .int s4), (5, .int s5)] [] u o u' := by
  unfold bX12_weightOn_17 at h
  refine rn_iload (pc := 17) 5 dX12_weightOn_17 rfl ?_
  refine rn_aload_n (pc := 19) 0 dX12_weightOn_19 rfl rfl ?_
  obtain ⟨v3, hv3, h1⟩ := bnd_some h
  refine rn_getI (pc := 20) (k := 25) okX12 (by decide) tw_1015 rfl dX12_weightOn_20 hv3 ?_
  rcases if_elim h1 with ⟨c4, h2⟩ | ⟨c4, h2⟩
  · refine rn_ige_f (pc := 23) 86 dX12_weightOn_23 (by decide) c4 ?_
    refine rn_aload_n (pc := 26) 0 dX12_weightOn_26 rfl rfl ?_
    refine rn_iload_n (pc := 27) 1 dX12_weightOn_27 rfl rfl ?_
    refine rn_iload (pc := 28) 5 dX12_weightOn_28 rfl ?_
    obtain ⟨b5, hb5, h3⟩ := bnd_some h2
    obtain ⟨qb5, kb5⟩ := chk_elim hb5
    cases qb5
    obtain ⟨v6, hv6, h4⟩ := bnd_some h3
    refine rn_callV (pc := 30) (n := 2) (As := [.int i1, .int s5]) (rest := []) (eX12_counts (d := d + 0) hv6) (by omega) okX12 kb5 tw_1299 tw_79 tw_1297 tw_1298 tw_53 (by decide +kernel) rfl (Nat.le_of_ble_eq_true rfl) dX12_weightOn_30 rfl ?_
    rcases if_elim h4 with ⟨c7, h5⟩ | ⟨c7, h5⟩
    · refine rn_zeq_t (pc := 33) (tgt := 80) dX12_weightOn_33 (by decide) c7 ?_
      obtain ⟨x8, ex8, h6⟩ := nm_elim h5
      refine rn_iinc (pc := 80) (v := x8) (lv' := [(5, .int x8), (0, rv (some t0)), (1, .int i1), (2, .int i2), (3, .int s3), (4, .int s4)]) 5 dX12_weightOn_80 rfl (by rw [ex8]; rfl) (by decide) rfl ?_
      refine rn_goto (pc := 83) (tgt := 17) dX12_weightOn_83 (by decide) ?_
      cases h6
      exact rn_sub [1, 2, 3, 4, 5, 0] rfl (k0 _ rfl)
    · refine rn_zeq_f (pc := 33) 80 dX12_weightOn_33 (by decide) c7 ?_
      refine rn_aload_n (pc := 36) 0 dX12_weightOn_36 rfl rfl ?_
      obtain ⟨v9, hv9, h7⟩ := bnd_some h5
      refine rn_getR (pc := 37) (k := 31) okX12 (by decide) tw_1021 rfl dX12_weightOn_37 hv9 ?_
      refine rn_iload (pc := 40) 5 dX12_weightOn_40 rfl ?_
      obtain ⟨v10, hv10, h8⟩ := bnd_some h7
      refine rn_iald (pc := 42) dX12_weightOn_42 hv10 ?_
      refine rn_iload_n (pc := 43) 2 dX12_weightOn_43 rfl rfl ?_
      rcases if_elim h8 with ⟨c11, h9⟩ | ⟨c11, h9⟩
      · refine rn_ilt_t (pc := 44) (tgt := 50) dX12_weightOn_44 (by decide) c11 ?_
        refine rn_iload_n (pc := 50) 3 dX12_weightOn_50 rfl rfl ?_
        refine rn_aload_n (pc := 51) 0 dX12_weightOn_51 rfl rfl ?_
        obtain ⟨v12, hv12, h10⟩ := bnd_some h9
        refine rn_getR (pc := 52) (k := 42) okX12 (by decide) tw_1032 rfl dX12_weightOn_52 hv12 ?_
        refine rn_iload_n (pc := 55) 1 dX12_weightOn_55 rfl rfl ?_
        refine rn_iload (pc := 56) 5 dX12_weightOn_56 rfl ?_
        obtain ⟨v13, hv13, h11⟩ := bnd_some h10
        refine rn_callS (pc := 58) (n := 2) (As := [.int i1, .int s5]) (rest := [rv v12, .int s3]) (eX12_pair (d := d + 1) hv13) (by omega) tw_1270 tw_79 tw_1268 tw_1269 (by decide +kernel) rfl (cat_le8 (Nat.le_of_ble_eq_true rfl)) dX12_weightOn_58 rfl ?_
        obtain ⟨v14, hv14, h12⟩ := bnd_some h11
        refine rn_iald (pc := 61) dX12_weightOn_61 hv14 ?_
        refine rn_iadd (pc := 62) dX12_weightOn_62 ?_
        obtain ⟨x15, ex15, h13⟩ := nm_elim h12
        refine rn_topi ex15 ?_
        refine rn_istore_n (pc := 63) (lv' := [(3, .int x15), (0, rv (some t0)), (1, .int i1), (2, .int i2), (4, .int s4), (5, .int s5)]) dX12_weightOn_63 rfl (by decide) rfl ?_
        refine rn_iload (pc := 64) 4 dX12_weightOn_64 rfl ?_
        refine rn_aload_n (pc := 66) 1 dX12_weightOn_66 rfl rfl ?_
        obtain ⟨v16, hv16, h14⟩ := bnd_some h13
        refine rn_getR (pc := 67) (k := 41) okX12 (by decide) tw_1031 rfl dX12_weightOn_67 hv16 ?_
        refine rn_iload_n (pc := 70) 2 dX12_weightOn_70 rfl rfl ?_
        refine rn_iload (pc := 71) 5 dX12_weightOn_71 rfl ?_
        obtain ⟨v17, hv17, h15⟩ := bnd_some h14
        refine rn_callS (pc := 73) (n := 2) (As := [.int i1, .int s5]) (rest := [rv v16, .int s4]) (eX12_pair (d := d + 1) hv17) (by omega) tw_1270 tw_79 tw_1268 tw_1269 (by decide +kernel) rfl (cat_le8 (Nat.le_of_ble_eq_true rfl)) dX12_weightOn_73 rfl ?_
        obtain ⟨v18, hv18, h16⟩ := bnd_some h15
        refine rn_iald (pc := 76) dX12_weightOn_76 hv18 ?_
        refine rn_iadd (pc := 77) dX12_weightOn_77 ?_
        obtain ⟨x19, ex19, h17⟩ := nm_elim h16
        refine rn_topi ex19 ?_
        refine rn_istore (pc := 78) (lv' := [(4, .int x19), (3, .int x15), (0, rv (some t0)), (1, .int i1), (2, .int i2), (5, .int s5)]) dX12_weightOn_78 (by decide) rfl ?_
        obtain ⟨x20, ex20, h18⟩ := nm_elim h17
        refine rn_iinc (pc := 80) (v := x20) (lv' := [(5, .int x20), (4, .int x19), (3, .int x15), (0, rv (some t0)), (1, .int i1), (2, .int i2)]) 5 dX12_weightOn_80 rfl (by rw [ex20]; rfl) (by decide) rfl ?_
        refine rn_goto (pc := 83) (tgt := 17) dX12_weightOn_83 (by decide) ?_
        cases h18
        exact rn_sub [3, 4, 5, 2, 1, 0] rfl (k0 _ rfl)
      · refine rn_ilt_f (pc := 44) 50 dX12_weightOn_44 (by decide) c11 ?_
        refine rn_goto (pc := 47) (tgt := 80) dX12_weightOn_47 (by decide) ?_
        obtain ⟨x21, ex21, h19⟩ := nm_elim h9
        refine rn_iinc (pc := 80) (v := x21) (lv' := [(5, .int x21), (0, rv (some t0)), (1, .int i1), (2, .int i2), (3, .int s3), (4, .int s4)]) 5 dX12_weightOn_80 rfl (by rw [ex21]; rfl) (by decide) rfl ?_
        refine rn_goto (pc := 83) (tgt := 17) dX12_weightOn_83 (by decide) ?_
        cases h19
        exact rn_sub [1, 2, 3, 4, 5, 0] rfl (k0 _ rfl)
  · refine rn_ige_t (pc := 23) (tgt := 86) dX12_weightOn_23 (by decide) c4 ?_
    cases h2
    exact rn_sub [3, 4] rfl (k1 _ rfl)
theorem lX12_weightOn_17 {l : Launch} {G : Gt} {d : Nat} {t0 : Nat} {i1 : Int32} {i2 : Int32} {u : Mem} {N : Nat} {s0 : Int32 × Int32 × Int32} {r : Int32 × Int32} {o : Outcome} {u' : Mem} (h : lp (fun s : Int32 × Int32 × Int32 => bX12_weightOn_17 t0 i1 i2 u s.1 s.2.1 s.2.2) N s0 = some r) (k1 : Rn l G iX12_weightOn (d + 2) 86 [(3, .int r.1), (4, .int r.2)] [] u o u') : Rn l G iX12_weightOn (d + 2) 17 [(0, rv (some t0)), (1, .int i1), (2, .int i2), (3, .int s0.1), (4, .int s0.2.1), (5, .int s0.2.2)] [] u o u' :=
  lp_run (P := fun s : Int32 × Int32 × Int32 => Rn l G iX12_weightOn (d + 2) 17 [(0, rv (some t0)), (1, .int i1), (2, .int i2), (3, .int s.1), (4, .int s.2.1), (5, .int s.2.2)] [] u o u') (E := fun r => Rn l G iX12_weightOn (d + 2) 86 [(3, .int r.1), (4, .int r.2)] [] u o u') (fun s y hy k0 kE => btX12_weightOn_17 hy (fun s' e => k0 s' e) (fun r e => kE r e)) N s0 r h k1
theorem tX12_weightOn {l : Launch} {G : Gt} {d : Nat} {t0 : Nat} {p1 : Int32} {p2 : Int32} {u : Mem} {y : Int32} (h : fX12_weightOn t0 p1 p2 u = some y) : Rn l G iX12_weightOn (d + 2) 0 [(0, rv (some t0)), (1, .int p1), (2, .int p2)] [] u (.returned (some (.int y))) u := by
  unfold fX12_weightOn at h
  refine rn_aload_n (pc := 0) 0 dX12_weightOn_0 rfl rfl ?_
  obtain ⟨v1, hv1, h1⟩ := bnd_some h
  refine rn_getI (pc := 1) (k := 1) okX12 (by decide) tw_991 rfl dX12_weightOn_1 hv1 ?_
  rcases if_elim h1 with ⟨c2, h2⟩ | ⟨c2, h2⟩
  · refine rn_zne_f (pc := 4) 9 dX12_weightOn_4 (by decide) c2 ?_
    refine rn_iconst (pc := 7) (v := 1) dX12_weightOn_7 (by decide) ?_
    cases h2
    exact rn_iret (pc := 8) rfl dX12_weightOn_8
  · refine rn_zne_t (pc := 4) (tgt := 9) dX12_weightOn_4 (by decide) c2 ?_
    refine rn_iconst (pc := 9) (v := 0) dX12_weightOn_9 (by decide) ?_
    refine rn_istore_n (pc := 10) (lv' := [(3, .int (0 : Int32)), (0, rv (some t0)), (1, .int p1), (2, .int p2)]) dX12_weightOn_10 rfl (by decide) rfl ?_
    refine rn_iconst (pc := 11) (v := 0) dX12_weightOn_11 (by decide) ?_
    refine rn_istore (pc := 12) (lv' := [(4, .int (0 : Int32)), (3, .int (0 : Int32)), (0, rv (some t0)), (1, .int p1), (2, .int p2)]) dX12_weightOn_12 (by decide) rfl ?_
    refine rn_iconst (pc := 14) (v := 0) dX12_weightOn_14 (by decide) ?_
    refine rn_istore (pc := 15) (lv' := [(5, .int (0 : Int32)), (4, .int (0 : Int32)), (3, .int (0 : Int32)), (0, rv (some t0)), (1, .int p1), (2, .int p2)]) dX12_weightOn_15 (by decide) rfl ?_
    obtain ⟨r22, hr22, h3⟩ := bnd_some h2
    refine rn_sub [3, 4, 5, 2, 1, 0] rfl (lX12_weightOn_17 hr22 ?_)
    refine rn_iload_n (pc := 86) 0 dX12_weightOn_86 rfl rfl ?_
    rcases if_elim h3 with ⟨c23, h4⟩ | ⟨c23, h4⟩
    · refine rn_zeq_t (pc := 87) (tgt := 96) dX12_weightOn_87 (by decide) c23 ?_
      refine rn_iconst (pc := 96) (v := 1) dX12_weightOn_96 (by decide) ?_
      refine rn_goto (pc := 97) (tgt := 115) dX12_weightOn_97 (by decide) ?_
      cases h4
      exact rn_iret (pc := 115) rfl dX12_weightOn_115
    · refine rn_zeq_f (pc := 87) 96 dX12_weightOn_87 (by decide) c23 ?_
      refine rn_iload (pc := 90) 1 dX12_weightOn_90 rfl ?_
      refine rn_iload_n (pc := 92) 0 dX12_weightOn_92 rfl rfl ?_
      rcases if_elim h4 with ⟨c24, h5⟩ | ⟨c24, h5⟩
      · refine rn_ile_f (pc := 93) 100 dX12_weightOn_93 (by decide) c24 ?_
        refine rn_iconst (pc := 96) (v := 1) dX12_weightOn_96 (by decide) ?_
        refine rn_goto (pc := 97) (tgt := 115) dX12_weightOn_97 (by decide) ?_
        cases h5
        exact rn_iret (pc := 115) rfl dX12_weightOn_115
      · refine rn_ile_t (pc := 93) (tgt := 100) dX12_weightOn_93 (by decide) c24 ?_
        refine rn_iconst (pc := 100) (v := 1) dX12_weightOn_100 (by decide) ?_
        refine rn_ldc2 (pc := 101) tw_1341 dX12_weightOn_101 ?_
        refine rn_iload_n (pc := 104) 0 dX12_weightOn_104 rfl rfl ?_
        refine rn_iload (pc := 105) 1 dX12_weightOn_105 rfl ?_
        refine rn_isub (pc := 107) dX12_weightOn_107 ?_
        refine rn_i2l (pc := 108) dX12_weightOn_108 ?_
        refine rn_lmul (pc := 109) dX12_weightOn_109 ?_
        refine rn_iload_n (pc := 110) 0 dX12_weightOn_110 rfl rfl ?_
        refine rn_i2l (pc := 111) dX12_weightOn_111 ?_
        obtain ⟨z25, hz25, h6⟩ := bnd_some h5
        have hz25 := (nz64_elim hz25).2
        refine rn_ldiv (pc := 112) dX12_weightOn_112 hz25 ?_
        refine rn_l2i (pc := 113) dX12_weightOn_113 ?_
        refine rn_iadd (pc := 114) dX12_weightOn_114 ?_
        cases h6
        exact rn_iret (pc := 115) rfl dX12_weightOn_115
theorem eX12_weightOn {l : Launch} {G : Gt} {d : Nat} {t0 : Nat} {p1 : Int32} {p2 : Int32} {u : Mem} {y : Int32} (h : fX12_weightOn t0 p1 p2 u = some y) : Ex l G iX12_weightOn (d + 2) [rv (some t0), .int p1, .int p2] u (.returned (some (.int y))) u := Ex.of (by decide +kernel) (by decide) (Nat.le_of_ble_eq_true rfl) rfl (tX12_weightOn h)
theorem tX12_weight {l : Launch} {G : Gt} {d : Nat} {t0 : Nat} {p1 : Int32} {p2 : Int32} {u : Mem} {y : Int32 × Mem} (h : fX12_weight t0 p1 p2 u = some y) : Rn l G iX12_weight (d + 5) 0 [(0, rv (some t0)), (1, .int p1), (2, .int p2)] [] u (.returned (some (.int y.1))) y.2 := by
  unfold fX12_weight at h
  refine rn_iload_n (pc := 0) 1 dX12_weight_0 rfl rfl ?_
  obtain ⟨v1, hv1, h1⟩ := bnd_some h
  refine rn_callS (pc := 1) (n := 1) (As := [.int p1]) (rest := []) (eX12_isGuesser (d := d + 3) hv1) (by omega) tw_1248 tw_79 tw_1246 tw_1247 (by decide +kernel) rfl (Nat.le_of_ble_eq_true rfl) dX12_weight_1 rfl ?_
  rcases if_elim h1 with ⟨c2, h2⟩ | ⟨c2, h2⟩
  · refine rn_zeq_t (pc := 4) (tgt := 14) dX12_weight_4 (by decide) c2 ?_
    refine rn_bipush (pc := 14) (v := -2) dX12_weight_14 (by decide) ?_
    cases h2
    exact rn_iret (pc := 16) rfl dX12_weight_16
  · refine rn_zeq_f (pc := 4) 14 dX12_weight_4 (by decide) c2 ?_
    refine rn_iload_n (pc := 7) 2 dX12_weight_7 rfl rfl ?_
    obtain ⟨v3, hv3, h3⟩ := bnd_some h2
    refine rn_callS (pc := 8) (n := 1) (As := [.int p2]) (rest := []) (eX12_isDay (d := d + 3) hv3) (by omega) tw_1232 tw_79 tw_1230 tw_1231 (by decide +kernel) rfl (Nat.le_of_ble_eq_true rfl) dX12_weight_8 rfl ?_
    rcases if_elim h3 with ⟨c4, h4⟩ | ⟨c4, h4⟩
    · refine rn_zne_f (pc := 11) 17 dX12_weight_11 (by decide) c4 ?_
      refine rn_bipush (pc := 14) (v := -2) dX12_weight_14 (by decide) ?_
      cases h4
      exact rn_iret (pc := 16) rfl dX12_weight_16
    · refine rn_zne_t (pc := 11) (tgt := 17) dX12_weight_11 (by decide) c4 ?_
      refine rn_aload_n (pc := 17) 0 dX12_weight_17 rfl rfl ?_
      obtain ⟨b5, hb5, h5⟩ := bnd_some h4
      obtain ⟨qb5, kb5⟩ := chk_elim hb5
      cases qb5
      obtain ⟨u6, hu6, h6⟩ := bnd_some h5
      refine rn_callV (pc := 18) (n := 0) (As := []) (rest := []) (eX12_prepare (d := d + 0) hu6) (by omega) okX12 kb5 tw_1267 tw_79 tw_1265 tw_1266 tw_45 (by decide +kernel) rfl (Nat.le_of_ble_eq_true rfl) dX12_weight_18 rfl ?_
      refine rn_aload_n (pc := 21) 0 dX12_weight_21 rfl rfl ?_
      refine rn_iload_n (pc := 22) 1 dX12_weight_22 rfl rfl ?_
      refine rn_iload_n (pc := 23) 2 dX12_weight_23 rfl rfl ?_
      obtain ⟨b7, hb7, h7⟩ := bnd_some h6
      obtain ⟨qb7, kb7⟩ := chk_elim hb7
      cases qb7
      obtain ⟨v8, hv8, h8⟩ := bnd_some h7
      refine rn_callV (pc := 24) (n := 2) (As := [.int p1, .int p2]) (rest := []) (eX12_weightOn (d := d + 2) hv8) (by omega) okX12 kb7 tw_1340 tw_79 tw_1338 tw_1339 tw_59 (by decide +kernel) rfl (Nat.le_of_ble_eq_true rfl) dX12_weight_24 rfl ?_
      cases h8
      exact rn_iret (pc := 27) rfl dX12_weight_27
theorem eX12_weight {l : Launch} {G : Gt} {d : Nat} {t0 : Nat} {p1 : Int32} {p2 : Int32} {u : Mem} {y : Int32 × Mem} (h : fX12_weight t0 p1 p2 u = some y) : Ex l G iX12_weight (d + 5) [rv (some t0), .int p1, .int p2] u (.returned (some (.int y.1))) y.2 := Ex.of (by decide +kernel) (by decide) (Nat.le_of_ble_eq_true rfl) rfl (tX12_weight h)
theorem btX12_isCopier_13 {l : Launch} {G : Gt} {d : Nat} {t0 : Nat} {i1 : Int32} {i2 : Int32} {i3 : Int32} {u : Mem} {s4 : Int32} {y : (Int32) ⊕ ((Unit) ⊕ (Unit))} {o : Outcome} {u' : Mem} (h : bX12_isCopier_13 t0 i1 i2 i3 u s4 = some y) (k0 : ∀ s' : Int32, y = .inl s' → Rn l G iX12_isCopier (d + 2) 13 [(0, rv (some t0)), (1, .int i1), (2, .int i2), (3, .int i3), (4, .int s')] [] u o u') (k1 : ∀ r : Unit, y = .inr (.inl r) → Rn l G iX12_isCopier (d + 2) 61 [] [] u o u') (k2 : ∀ r : Unit, y = .inr (.inr (r)) → Rn l G iX12_isCopier (d + 2) 53 [] [] u o u') : Rn l G iX12_isCopier (d + 2) 13 [(0, rv (some t0)), (1, .int i1), (2, .int i2), (3, .int i3), (4, .int s4)] [] u o u' := by
  unfold bX12_isCopier_13 at h
  refine rn_iload (pc := 13) 4 dX12_isCopier_13 rfl ?_
  refine rn_bipush (pc := 15) (v := 20) dX12_isCopier_15 (by decide) ?_
  rcases if_elim h with ⟨c3, h1⟩ | ⟨c3, h1⟩
  · refine rn_ige_f (pc := 17) 61 dX12_isCopier_17 (by decide) c3 ?_
    refine rn_iload (pc := 20) 4 dX12_isCopier_20 rfl ?_
    refine rn_iload_n (pc := 22) 1 dX12_isCopier_22 rfl rfl ?_
    rcases if_elim h1 with ⟨c4, h2⟩ | ⟨c4, h2⟩
    · refine rn_ieq_t (pc := 23) (tgt := 55) dX12_isCopier_23 (by decide) c4 ?_
      obtain ⟨x5, ex5, h3⟩ := nm_elim h2
      refine rn_iinc (pc := 55) (v := x5) (lv' := [(4, .int x5), (0, rv (some t0)), (1, .int i1), (2, .int i2), (3, .int i3)]) 4 dX12_isCopier_55 rfl (by rw [ex5]; rfl) (by decide) rfl ?_
      refine rn_goto (pc := 58) (tgt := 13) dX12_isCopier_58 (by decide) ?_
      cases h3
      exact rn_sub [1, 2, 3, 4, 0] rfl (k0 _ rfl)
    · refine rn_ieq_f (pc := 23) 55 dX12_isCopier_23 (by decide) c4 ?_
      refine rn_aload_n (pc := 26) 0 dX12_isCopier_26 rfl rfl ?_
      refine rn_iload (pc := 27) 4 dX12_isCopier_27 rfl ?_
      refine rn_iload_n (pc := 29) 2 dX12_isCopier_29 rfl rfl ?_
      refine rn_iload_n (pc := 30) 3 dX12_isCopier_30 rfl rfl ?_
      obtain ⟨b6, hb6, h4⟩ := bnd_some h2
      obtain ⟨qb6, kb6⟩ := chk_elim hb6
      cases qb6
      obtain ⟨v7, hv7, h5⟩ := bnd_some h4
      refine rn_callV (pc := 31) (n := 3) (As := [.int s4, .int i2, .int i3]) (rest := []) (eX12_heldAt (d := d + 0) hv7) (by omega) okX12 kb6 tw_1286 tw_79 tw_1284 tw_1285 tw_50 (by decide +kernel) rfl (Nat.le_of_ble_eq_true rfl) dX12_isCopier_31 rfl ?_
      refine rn_iconst (pc := 34) (v := -1) dX12_isCopier_34 (by decide) ?_
      rcases if_elim h5 with ⟨c8, h6⟩ | ⟨c8, h6⟩
      · refine rn_ieq_t (pc := 35) (tgt := 55) dX12_isCopier_35 (by decide) c8 ?_
        obtain ⟨x9, ex9, h7⟩ := nm_elim h6
        refine rn_iinc (pc := 55) (v := x9) (lv' := [(4, .int x9), (0, rv (some t0)), (1, .int i1), (2, .int i2), (3, .int i3)]) 4 dX12_isCopier_55 rfl (by rw [ex9]; rfl) (by decide) rfl ?_
        refine rn_goto (pc := 58) (tgt := 13) dX12_isCopier_58 (by decide) ?_
        cases h7
        exact rn_sub [1, 2, 3, 4, 0] rfl (k0 _ rfl)
      · refine rn_ieq_f (pc := 35) 55 dX12_isCopier_35 (by decide) c8 ?_
        refine rn_aload_n (pc := 38) 0 dX12_isCopier_38 rfl rfl ?_
        refine rn_iload_n (pc := 39) 1 dX12_isCopier_39 rfl rfl ?_
        refine rn_iload (pc := 40) 4 dX12_isCopier_40 rfl ?_
        refine rn_iload_n (pc := 42) 3 dX12_isCopier_42 rfl rfl ?_
        obtain ⟨b10, hb10, h8⟩ := bnd_some h6
        obtain ⟨qb10, kb10⟩ := chk_elim hb10
        cases qb10
        obtain ⟨v11, hv11, h9⟩ := bnd_some h8
        refine rn_callV (pc := 43) (n := 3) (As := [.int i1, .int s4, .int i3]) (rest := []) (eX12_copiesOf (d := d + 1) hv11) (by omega) okX12 kb10 tw_1333 tw_79 tw_1331 tw_1332 tw_58 (by decide +kernel) rfl (Nat.le_of_ble_eq_true rfl) dX12_isCopier_43 rfl ?_
        refine rn_aload_n (pc := 46) 0 dX12_isCopier_46 rfl rfl ?_
        obtain ⟨v12, hv12, h10⟩ := bnd_some h9
        refine rn_getI (pc := 47) (k := 3) okX12 (by decide) tw_993 rfl dX12_isCopier_47 hv12 ?_
        rcases if_elim h10 with ⟨c13, h11⟩ | ⟨c13, h11⟩
        · refine rn_ilt_t (pc := 50) (tgt := 55) dX12_isCopier_50 (by decide) c13 ?_
          obtain ⟨x14, ex14, h12⟩ := nm_elim h11
          refine rn_iinc (pc := 55) (v := x14) (lv' := [(4, .int x14), (0, rv (some t0)), (1, .int i1), (2, .int i2), (3, .int i3)]) 4 dX12_isCopier_55 rfl (by rw [ex14]; rfl) (by decide) rfl ?_
          refine rn_goto (pc := 58) (tgt := 13) dX12_isCopier_58 (by decide) ?_
          cases h12
          exact rn_sub [1, 2, 3, 4, 0] rfl (k0 _ rfl)
        · refine rn_ilt_f (pc := 50) 55 dX12_isCopier_50 (by decide) c13 ?_
          cases h11
          exact rn_sub [] rfl (k2 _ rfl)
  · refine rn_ige_t (pc := 17) (tgt := 61) dX12_isCopier_17 (by decide) c3 ?_
    cases h1
    exact rn_sub [] rfl (k1 _ rfl)
theorem lX12_isCopier_13 {l : Launch} {G : Gt} {d : Nat} {t0 : Nat} {i1 : Int32} {i2 : Int32} {i3 : Int32} {u : Mem} {N : Nat} {s0 : Int32} {r : (Unit) ⊕ (Unit)} {o : Outcome} {u' : Mem} (h : lp (fun s : Int32 => bX12_isCopier_13 t0 i1 i2 i3 u s) N s0 = some r) (k1 : ∀ r' : Unit, r = .inl r' → Rn l G iX12_isCopier (d + 2) 61 [] [] u o u') (k2 : ∀ r' : Unit, r = .inr (r') → Rn l G iX12_isCopier (d + 2) 53 [] [] u o u') : Rn l G iX12_isCopier (d + 2) 13 [(0, rv (some t0)), (1, .int i1), (2, .int i2), (3, .int i3), (4, .int s0)] [] u o u' :=
  lp_run (P := fun s : Int32 => Rn l G iX12_isCopier (d + 2) 13 [(0, rv (some t0)), (1, .int i1), (2, .int i2), (3, .int i3), (4, .int s)] [] u o u') (E := fun r => (∀ r' : Unit, r = .inl r' → Rn l G iX12_isCopier (d + 2) 61 [] [] u o u') ∧ (∀ r' : Unit, r = .inr (r') → Rn l G iX12_isCopier (d + 2) 53 [] [] u o u')) (fun s y hy k0 kE => btX12_isCopier_13 hy (fun s' e => k0 s' e) (fun r e => (kE _ e).1 r rfl) (fun r e => (kE _ e).2 r rfl)) N s0 r h ⟨k1, k2⟩
theorem tX12_isCopier {l : Launch} {G : Gt} {d : Nat} {t0 : Nat} {p1 : Int32} {p2 : Int32} {p3 : Int32} {u : Mem} {y : Int32} (h : fX12_isCopier t0 p1 p2 p3 u = some y) : Rn l G iX12_isCopier (d + 2) 0 [(0, rv (some t0)), (1, .int p1), (2, .int p2), (3, .int p3)] [] u (.returned (some (.int y))) u := by
  unfold fX12_isCopier at h
  refine rn_aload_n (pc := 0) 0 dX12_isCopier_0 rfl rfl ?_
  obtain ⟨v1, hv1, h1⟩ := bnd_some h
  refine rn_getI (pc := 1) (k := 2) okX12 (by decide) tw_992 rfl dX12_isCopier_1 hv1 ?_
  refine rn_iconst (pc := 4) (v := -1) dX12_isCopier_4 (by decide) ?_
  rcases if_elim h1 with ⟨c2, h2⟩ | ⟨c2, h2⟩
  · refine rn_ine_f (pc := 5) 10 dX12_isCopier_5 (by decide) c2 ?_
    refine rn_iconst (pc := 8) (v := 0) dX12_isCopier_8 (by decide) ?_
    cases h2
    exact rn_zret (pc := 9) (by decide) rfl dX12_isCopier_9
  · refine rn_ine_t (pc := 5) (tgt := 10) dX12_isCopier_5 (by decide) c2 ?_
    refine rn_iconst (pc := 10) (v := 0) dX12_isCopier_10 (by decide) ?_
    refine rn_istore (pc := 11) (lv' := [(4, .int (0 : Int32)), (0, rv (some t0)), (1, .int p1), (2, .int p2), (3, .int p3)]) dX12_isCopier_11 (by decide) rfl ?_
    obtain ⟨r15, hr15, h3⟩ := bnd_some h2
    rcases r15 with r16 | r17
    · refine rn_sub [1, 2, 3, 4, 0] rfl (lX12_isCopier_13 hr15 (fun _ hq => ?_) (fun _ hq => by cases hq))
      cases hq
      have h4 := sumE_l h3
      refine rn_iconst (pc := 61) (v := 0) dX12_isCopier_61 (by decide) ?_
      cases h4
      exact rn_zret (pc := 62) (by decide) rfl dX12_isCopier_62
    · refine rn_sub [1, 2, 3, 4, 0] rfl (lX12_isCopier_13 hr15 (fun _ hq => by cases hq) (fun _ hq => ?_))
      cases hq
      have h5 := sumE_r h3
      refine rn_iconst (pc := 53) (v := 1) dX12_isCopier_53 (by decide) ?_
      cases h5
      exact rn_zret (pc := 54) (by decide) rfl dX12_isCopier_54
theorem eX12_isCopier {l : Launch} {G : Gt} {d : Nat} {t0 : Nat} {p1 : Int32} {p2 : Int32} {p3 : Int32} {u : Mem} {y : Int32} (h : fX12_isCopier t0 p1 p2 p3 u = some y) : Ex l G iX12_isCopier (d + 2) [rv (some t0), .int p1, .int p2, .int p3] u (.returned (some (.int y))) u := Ex.of (by decide +kernel) (by decide) (Nat.le_of_ble_eq_true rfl) rfl (tX12_isCopier h)
theorem btX12_joinedOn_5 {l : Launch} {G : Gt} {d : Nat} {t0 : Nat} {i1 : Int32} {i2 : Int32} {i3 : Int32} {s4 : Int32} {u : Mem} {y : (Int32 × Mem) ⊕ (Mem)} {o : Outcome} {u' : Mem} (h : bX12_joinedOn_5 t0 i1 i2 i3 s4 u = some y) (k0 : ∀ s' : Int32 × Mem, y = .inl s' → Rn l G iX12_joinedOn (d + 3) 5 [(0, rv (some t0)), (1, .int i1), (2, .int i2), (3, .int i3), (4, .int s'.1)] [] s'.2 o u') (k1 : ∀ r : Mem, y = .inr (r) → Rn l G iX12_joinedOn (d + 3) 26 [(0, rv (some t0)), (1, .int i1), (2, .int i2), (3, .int i3)] [] r o u') : Rn l G iX12_joinedOn (d + 3) 5 [(0, rv (some t0)), (1, .int i1), (2, .int i2), (3, .int i3), (4, .int s4)] [] u o u' := by
  unfold bX12_joinedOn_5 at h
  refine rn_iload (pc := 5) 4 dX12_joinedOn_5 rfl ?_
  refine rn_bipush (pc := 7) (v := 11) dX12_joinedOn_7 (by decide) ?_
  rcases if_elim h with ⟨c1, h1⟩ | ⟨c1, h1⟩
  · refine rn_ige_f (pc := 9) 26 dX12_joinedOn_9 (by decide) c1 ?_
    refine rn_aload_n (pc := 12) 0 dX12_joinedOn_12 rfl rfl ?_
    obtain ⟨v2, hv2, h2⟩ := bnd_some h1
    refine rn_getR (pc := 13) (k := 49) okX12 (by decide) tw_1039 rfl dX12_joinedOn_13 hv2 ?_
    refine rn_iload (pc := 16) 4 dX12_joinedOn_16 rfl ?_
    refine rn_iconst (pc := 18) (v := 0) dX12_joinedOn_18 (by decide) ?_
    obtain ⟨u3, hu3, h3⟩ := bnd_some h2
    refine rn_iast (pc := 19) dX12_joinedOn_19 hu3 ?_
    obtain ⟨x4, ex4, h4⟩ := nm_elim h3
    refine rn_iinc (pc := 20) (v := x4) (lv' := [(4, .int x4), (0, rv (some t0)), (1, .int i1), (2, .int i2), (3, .int i3)]) 4 dX12_joinedOn_20 rfl (by rw [ex4]; rfl) (by decide) rfl ?_
    refine rn_goto (pc := 23) (tgt := 5) dX12_joinedOn_23 (by decide) ?_
    cases h4
    exact rn_sub [1, 2, 3, 4, 0] rfl (k0 _ rfl)
  · refine rn_ige_t (pc := 9) (tgt := 26) dX12_joinedOn_9 (by decide) c1 ?_
    cases h1
    exact rn_sub [0, 1, 2, 3] rfl (k1 _ rfl)
theorem lX12_joinedOn_5 {l : Launch} {G : Gt} {d : Nat} {t0 : Nat} {i1 : Int32} {i2 : Int32} {i3 : Int32} {N : Nat} {s0 : Int32 × Mem} {r : Mem} {o : Outcome} {u' : Mem} (h : lp (fun s : Int32 × Mem => bX12_joinedOn_5 t0 i1 i2 i3 s.1 s.2) N s0 = some r) (k1 : Rn l G iX12_joinedOn (d + 3) 26 [(0, rv (some t0)), (1, .int i1), (2, .int i2), (3, .int i3)] [] r o u') : Rn l G iX12_joinedOn (d + 3) 5 [(0, rv (some t0)), (1, .int i1), (2, .int i2), (3, .int i3), (4, .int s0.1)] [] s0.2 o u' :=
  lp_run (P := fun s : Int32 × Mem => Rn l G iX12_joinedOn (d + 3) 5 [(0, rv (some t0)), (1, .int i1), (2, .int i2), (3, .int i3), (4, .int s.1)] [] s.2 o u') (E := fun r => Rn l G iX12_joinedOn (d + 3) 26 [(0, rv (some t0)), (1, .int i1), (2, .int i2), (3, .int i3)] [] r o u') (fun s y hy k0 kE => btX12_joinedOn_5 hy (fun s' e => k0 s' e) (fun r e => kE r e)) N s0 r h k1
theorem btX12_joinedOn_29 {l : Launch} {G : Gt} {d : Nat} {t0 : Nat} {i1 : Int32} {i2 : Int32} {s3 : Int32} {s4 : Int32} {u : Mem} {y : (Int32 × Int32 × Mem) ⊕ (Int32 × Mem)} {o : Outcome} {u' : Mem} (h : bX12_joinedOn_29 t0 i1 i2 s3 s4 u = some y) (k0 : ∀ s' : Int32 × Int32 × Mem, y = .inl s' → Rn l G iX12_joinedOn (d + 3) 29 [(0, rv (some t0)), (1, .int i1), (2, .int i2), (3, .int s'.1), (4, .int s'.2.1)] [] s'.2.2 o u') (k1 : ∀ r : Int32 × Mem, y = .inr (r) → Rn l G iX12_joinedOn (d + 3) 98 [(0, rv (some t0)), (3, .int r.1)] [] r.2 o u') : Rn l G iX12_joinedOn (d + 3) 29 [(0, rv (some t0)), (1, .int i1), (2, .int i2), (3, .int s3), (4, .int s4)] [] u o u' := by
  unfold bX12_joinedOn_29 at h
  refine rn_iload (pc := 29) 4 dX12_joinedOn_29 rfl ?_
  refine rn_bipush (pc := 31) (v := 20) dX12_joinedOn_31 (by decide) ?_
  rcases if_elim h with ⟨c6, h1⟩ | ⟨c6, h1⟩
  · refine rn_ige_f (pc := 33) 98 dX12_joinedOn_33 (by decide) c6 ?_
    refine rn_aload_n (pc := 36) 0 dX12_joinedOn_36 rfl rfl ?_
    refine rn_iload (pc := 37) 4 dX12_joinedOn_37 rfl ?_
    refine rn_iload_n (pc := 39) 1 dX12_joinedOn_39 rfl rfl ?_
    refine rn_iload_n (pc := 40) 2 dX12_joinedOn_40 rfl rfl ?_
    obtain ⟨b7, hb7, h2⟩ := bnd_some h1
    obtain ⟨qb7, kb7⟩ := chk_elim hb7
    cases qb7
    obtain ⟨v8, hv8, h3⟩ := bnd_some h2
    refine rn_callV (pc := 41) (n := 3) (As := [.int s4, .int i1, .int i2]) (rest := []) (eX12_heldAt (d := d + 1) hv8) (by omega) okX12 kb7 tw_1286 tw_79 tw_1284 tw_1285 tw_50 (by decide +kernel) rfl (Nat.le_of_ble_eq_true rfl) dX12_joinedOn_41 rfl ?_
    refine rn_istore (pc := 44) (lv' := [(5, .int v8), (0, rv (some t0)), (1, .int i1), (2, .int i2), (3, .int s3), (4, .int s4)]) dX12_joinedOn_44 (by decide) rfl ?_
    refine rn_iload (pc := 46) 0 dX12_joinedOn_46 rfl ?_
    refine rn_iconst (pc := 48) (v := -1) dX12_joinedOn_48 (by decide) ?_
    rcases if_elim h3 with ⟨c9, h4⟩ | ⟨c9, h4⟩
    · refine rn_ieq_t (pc := 49) (tgt := 92) dX12_joinedOn_49 (by decide) c9 ?_
      obtain ⟨x10, ex10, h5⟩ := nm_elim h4
      refine rn_iinc (pc := 92) (v := x10) (lv' := [(4, .int x10), (5, .int v8), (0, rv (some t0)), (1, .int i1), (2, .int i2), (3, .int s3)]) 5 dX12_joinedOn_92 rfl (by rw [ex10]; rfl) (by decide) rfl ?_
      refine rn_goto (pc := 95) (tgt := 29) dX12_joinedOn_95 (by decide) ?_
      cases h5
      exact rn_sub [2, 3, 4, 5, 0] rfl (k0 _ rfl)
    · refine rn_ieq_f (pc := 49) 92 dX12_joinedOn_49 (by decide) c9 ?_
      refine rn_aload_n (pc := 52) 1 dX12_joinedOn_52 rfl rfl ?_
      refine rn_iload (pc := 53) 5 dX12_joinedOn_53 rfl ?_
      refine rn_iload_n (pc := 55) 2 dX12_joinedOn_55 rfl rfl ?_
      refine rn_iload_n (pc := 56) 3 dX12_joinedOn_56 rfl rfl ?_
      obtain ⟨b11, hb11, h6⟩ := bnd_some h4
      obtain ⟨qb11, kb11⟩ := chk_elim hb11
      cases qb11
      obtain ⟨v12, hv12, h7⟩ := bnd_some h6
      refine rn_callV (pc := 57) (n := 3) (As := [.int s4, .int i1, .int i2]) (rest := []) (eX12_isCopier (d := d + 0) hv12) (by omega) okX12 kb11 tw_1354 tw_79 tw_1352 tw_1353 tw_62 (by decide +kernel) rfl (Nat.le_of_ble_eq_true rfl) dX12_joinedOn_57 rfl ?_
      rcases if_elim h7 with ⟨c13, h8⟩ | ⟨c13, h8⟩
      · refine rn_zeq_t (pc := 60) (tgt := 66) dX12_joinedOn_60 (by decide) c13 ?_
        refine rn_aload_n (pc := 66) 1 dX12_joinedOn_66 rfl rfl ?_
        refine rn_iload (pc := 67) 5 dX12_joinedOn_67 rfl ?_
        refine rn_iload_n (pc := 69) 3 dX12_joinedOn_69 rfl rfl ?_
        obtain ⟨b14, hb14, h9⟩ := bnd_some h8
        obtain ⟨qb14, kb14⟩ := chk_elim hb14
        cases qb14
        obtain ⟨v15, hv15, h10⟩ := bnd_some h9
        refine rn_callV (pc := 70) (n := 2) (As := [.int s4, .int i2]) (rest := []) (eX12_weightOn (d := d + 0) hv15) (by omega) okX12 kb14 tw_1340 tw_79 tw_1338 tw_1339 tw_59 (by decide +kernel) rfl (Nat.le_of_ble_eq_true rfl) dX12_joinedOn_70 rfl ?_
        refine rn_istore (pc := 73) (lv' := [(6, .int v15), (5, .int v8), (0, rv (some t0)), (1, .int i1), (2, .int i2), (3, .int s3), (4, .int s4)]) dX12_joinedOn_73 (by decide) rfl ?_
        refine rn_aload_n (pc := 75) 2 dX12_joinedOn_75 rfl rfl ?_
        obtain ⟨v16, hv16, h11⟩ := bnd_some h10
        refine rn_getR (pc := 76) (k := 49) okX12 (by decide) tw_1039 rfl dX12_joinedOn_76 hv16 ?_
        refine rn_iload (pc := 79) 1 dX12_joinedOn_79 rfl ?_
        refine rn_dup2 (pc := 81) dX12_joinedOn_81 rfl (rv_cat _) ?_
        obtain ⟨v17, hv17, h12⟩ := bnd_some h11
        refine rn_iald (pc := 82) dX12_joinedOn_82 hv17 ?_
        refine rn_iload (pc := 83) 0 dX12_joinedOn_83 rfl ?_
        refine rn_iadd (pc := 85) dX12_joinedOn_85 ?_
        obtain ⟨u18, hu18, h13⟩ := bnd_some h12
        refine rn_iast (pc := 86) dX12_joinedOn_86 hu18 ?_
        refine rn_iload_n (pc := 87) 5 dX12_joinedOn_87 rfl rfl ?_
        refine rn_iload (pc := 88) 0 dX12_joinedOn_88 rfl ?_
        refine rn_iadd (pc := 90) dX12_joinedOn_90 ?_
        obtain ⟨x19, ex19, h14⟩ := nm_elim h13
        refine rn_topi ex19 ?_
        refine rn_istore_n (pc := 91) (lv' := [(3, .int x19), (6, .int v15), (5, .int v8), (0, rv (some t0)), (1, .int i1), (2, .int i2), (4, .int s4)]) dX12_joinedOn_91 rfl (by decide) rfl ?_
        obtain ⟨x20, ex20, h15⟩ := nm_elim h14
        refine rn_iinc (pc := 92) (v := x20) (lv' := [(4, .int x20), (3, .int x19), (6, .int v15), (5, .int v8), (0, rv (some t0)), (1, .int i1), (2, .int i2)]) 6 dX12_joinedOn_92 rfl (by rw [ex20]; rfl) (by decide) rfl ?_
        refine rn_goto (pc := 95) (tgt := 29) dX12_joinedOn_95 (by decide) ?_
        cases h15
        exact rn_sub [4, 5, 6, 1, 0] rfl (k0 _ rfl)
      · refine rn_zeq_f (pc := 60) 66 dX12_joinedOn_60 (by decide) c13 ?_
        refine rn_goto (pc := 63) (tgt := 92) dX12_joinedOn_63 (by decide) ?_
        obtain ⟨x21, ex21, h16⟩ := nm_elim h8
        refine rn_iinc (pc := 92) (v := x21) (lv' := [(4, .int x21), (5, .int v8), (0, rv (some t0)), (1, .int i1), (2, .int i2), (3, .int s3)]) 5 dX12_joinedOn_92 rfl (by rw [ex21]; rfl) (by decide) rfl ?_
        refine rn_goto (pc := 95) (tgt := 29) dX12_joinedOn_95 (by decide) ?_
        cases h16
        exact rn_sub [2, 3, 4, 5, 0] rfl (k0 _ rfl)
  · refine rn_ige_t (pc := 33) (tgt := 98) dX12_joinedOn_33 (by decide) c6 ?_
    cases h1
    exact rn_sub [0, 3] rfl (k1 _ rfl)
theorem lX12_joinedOn_29 {l : Launch} {G : Gt} {d : Nat} {t0 : Nat} {i1 : Int32} {i2 : Int32} {N : Nat} {s0 : Int32 × Int32 × Mem} {r : Int32 × Mem} {o : Outcome} {u' : Mem} (h : lp (fun s : Int32 × Int32 × Mem => bX12_joinedOn_29 t0 i1 i2 s.1 s.2.1 s.2.2) N s0 = some r) (k1 : Rn l G iX12_joinedOn (d + 3) 98 [(0, rv (some t0)), (3, .int r.1)] [] r.2 o u') : Rn l G iX12_joinedOn (d + 3) 29 [(0, rv (some t0)), (1, .int i1), (2, .int i2), (3, .int s0.1), (4, .int s0.2.1)] [] s0.2.2 o u' :=
  lp_run (P := fun s : Int32 × Int32 × Mem => Rn l G iX12_joinedOn (d + 3) 29 [(0, rv (some t0)), (1, .int i1), (2, .int i2), (3, .int s.1), (4, .int s.2.1)] [] s.2.2 o u') (E := fun r => Rn l G iX12_joinedOn (d + 3) 98 [(0, rv (some t0)), (3, .int r.1)] [] r.2 o u') (fun s y hy k0 kE => btX12_joinedOn_29 hy (fun s' e => k0 s' e) (fun r e => kE r e)) N s0 r h k1
theorem btX12_joinedOn_115 {l : Launch} {G : Gt} {d : Nat} {t0 : Nat} {i3 : Int32} {u : Mem} {s4 : Int32} {s5 : Int32} {y : (Int32 × Int32) ⊕ (Int32)} {o : Outcome} {u' : Mem} (h : bX12_joinedOn_115 t0 i3 u s4 s5 = some y) (k0 : ∀ s' : Int32 × Int32, y = .inl s' → Rn l G iX12_joinedOn (d + 3) 115 [(0, rv (some t0)), (3, .int i3), (4, .int s'.1), (5, .int s'.2)] [] u o u') (k1 : ∀ r : Int32, y = .inr (r) → Rn l G iX12_joinedOn (d + 3) 141 [(4, .int r)] [] u o u') : Rn l G iX12_joinedOn (d + 3) 115 [(0, rv (some t0)), (3, .int i3), (4, .int s4), (5, .int s5)] [] u o u' := by
  unfold bX12_joinedOn_115 at h
  refine rn_iconst (pc := 115) (v := 2) dX12_joinedOn_115 (by decide) ?_
  refine rn_iload (pc := 116) 3 dX12_joinedOn_116 rfl ?_
  refine rn_imul (pc := 118) dX12_joinedOn_118 ?_
  refine rn_iload_n (pc := 119) 1 dX12_joinedOn_119 rfl rfl ?_
  rcases if_elim h with ⟨c26, h1⟩ | ⟨c26, h1⟩
  · refine rn_ige_f (pc := 120) 141 dX12_joinedOn_120 (by decide) c26 ?_
    obtain ⟨x27, ex27, h2⟩ := nm_elim h1
    refine rn_iinc (pc := 123) (v := x27) (lv' := [(4, .int x27), (0, rv (some t0)), (3, .int i3), (5, .int s5)]) 2 dX12_joinedOn_123 rfl (by rw [ex27]; rfl) (by decide) rfl ?_
    refine rn_iload (pc := 126) 3 dX12_joinedOn_126 rfl ?_
    refine rn_aload_n (pc := 128) 1 dX12_joinedOn_128 rfl rfl ?_
    obtain ⟨v28, hv28, h3⟩ := bnd_some h2
    refine rn_getR (pc := 129) (k := 49) okX12 (by decide) tw_1039 rfl dX12_joinedOn_129 hv28 ?_
    refine rn_iload (pc := 132) 0 dX12_joinedOn_132 rfl ?_
    obtain ⟨v29, hv29, h4⟩ := bnd_some h3
    refine rn_iald (pc := 134) dX12_joinedOn_134 hv29 ?_
    refine rn_iadd (pc := 135) dX12_joinedOn_135 ?_
    obtain ⟨x30, ex30, h5⟩ := nm_elim h4
    refine rn_topi ex30 ?_
    refine rn_istore (pc := 136) (lv' := [(5, .int x30), (4, .int x27), (0, rv (some t0)), (3, .int i3)]) dX12_joinedOn_136 (by decide) rfl ?_
    refine rn_goto (pc := 138) (tgt := 115) dX12_joinedOn_138 (by decide) ?_
    cases h5
    exact rn_sub [2, 3, 1, 0] rfl (k0 _ rfl)
  · refine rn_ige_t (pc := 120) (tgt := 141) dX12_joinedOn_120 (by decide) c26 ?_
    cases h1
    exact rn_sub [2] rfl (k1 _ rfl)
theorem lX12_joinedOn_115 {l : Launch} {G : Gt} {d : Nat} {t0 : Nat} {i3 : Int32} {u : Mem} {N : Nat} {s0 : Int32 × Int32} {r : Int32} {o : Outcome} {u' : Mem} (h : lp (fun s : Int32 × Int32 => bX12_joinedOn_115 t0 i3 u s.1 s.2) N s0 = some r) (k1 : Rn l G iX12_joinedOn (d + 3) 141 [(4, .int r)] [] u o u') : Rn l G iX12_joinedOn (d + 3) 115 [(0, rv (some t0)), (3, .int i3), (4, .int s0.1), (5, .int s0.2)] [] u o u' :=
  lp_run (P := fun s : Int32 × Int32 => Rn l G iX12_joinedOn (d + 3) 115 [(0, rv (some t0)), (3, .int i3), (4, .int s.1), (5, .int s.2)] [] u o u') (E := fun r => Rn l G iX12_joinedOn (d + 3) 141 [(4, .int r)] [] u o u') (fun s y hy k0 kE => btX12_joinedOn_115 hy (fun s' e => k0 s' e) (fun r e => kE r e)) N s0 r h k1
theorem tX12_joinedOn {l : Launch} {G : Gt} {d : Nat} {t0 : Nat} {p1 : Int32} {p2 : Int32} {u : Mem} {y : Int32 × Mem} (h : fX12_joinedOn t0 p1 p2 u = some y) : Rn l G iX12_joinedOn (d + 3) 0 [(0, rv (some t0)), (1, .int p1), (2, .int p2)] [] u (.returned (some (.int y.1))) y.2 := by
  unfold fX12_joinedOn at h
  refine rn_iconst (pc := 0) (v := 0) dX12_joinedOn_0 (by decide) ?_
  refine rn_istore_n (pc := 1) (lv' := [(3, .int (0 : Int32)), (0, rv (some t0)), (1, .int p1), (2, .int p2)]) dX12_joinedOn_1 rfl (by decide) rfl ?_
  refine rn_iconst (pc := 2) (v := 0) dX12_joinedOn_2 (by decide) ?_
  refine rn_istore (pc := 3) (lv' := [(4, .int (0 : Int32)), (3, .int (0 : Int32)), (0, rv (some t0)), (1, .int p1), (2, .int p2)]) dX12_joinedOn_3 (by decide) rfl ?_
  obtain ⟨r5, hr5, h1⟩ := bnd_some h
  refine rn_sub [2, 3, 4, 1, 0] rfl (lX12_joinedOn_5 hr5 ?_)
  refine rn_iconst (pc := 26) (v := 0) dX12_joinedOn_26 (by decide) ?_
  refine rn_istore (pc := 27) (lv' := [(4, .int (0 : Int32)), (0, rv (some t0)), (1, .int p1), (2, .int p2), (3, .int (0 : Int32))]) dX12_joinedOn_27 (by decide) rfl ?_
  obtain ⟨r22, hr22, h2⟩ := bnd_some h1
  refine rn_sub [1, 2, 3, 4, 0] rfl (lX12_joinedOn_29 hr22 ?_)
  refine rn_iload_n (pc := 98) 1 dX12_joinedOn_98 rfl rfl ?_
  rcases if_elim h2 with ⟨c23, h3⟩ | ⟨c23, h3⟩
  · refine rn_zne_f (pc := 99) 104 dX12_joinedOn_99 (by decide) c23 ?_
    refine rn_iconst (pc := 102) (v := -1) dX12_joinedOn_102 (by decide) ?_
    cases h3
    exact rn_iret (pc := 103) rfl dX12_joinedOn_103
  · refine rn_zne_t (pc := 99) (tgt := 104) dX12_joinedOn_99 (by decide) c23 ?_
    refine rn_iconst (pc := 104) (v := 0) dX12_joinedOn_104 (by decide) ?_
    refine rn_istore (pc := 105) (lv' := [(4, .int (0 : Int32)), (0, rv (some t0)), (3, .int r22.1)]) dX12_joinedOn_105 (by decide) rfl ?_
    refine rn_aload_n (pc := 107) 1 dX12_joinedOn_107 rfl rfl ?_
    obtain ⟨v24, hv24, h4⟩ := bnd_some h3
    refine rn_getR (pc := 108) (k := 49) okX12 (by decide) tw_1039 rfl dX12_joinedOn_108 hv24 ?_
    refine rn_iconst (pc := 111) (v := 0) dX12_joinedOn_111 (by decide) ?_
    obtain ⟨v25, hv25, h5⟩ := bnd_some h4
    refine rn_iald (pc := 112) dX12_joinedOn_112 hv25 ?_
    refine rn_istore (pc := 113) (lv' := [(5, .int v25), (4, .int (0 : Int32)), (0, rv (some t0)), (3, .int r22.1)]) dX12_joinedOn_113 (by decide) rfl ?_
    obtain ⟨r31, hr31, h6⟩ := bnd_some h5
    refine rn_sub [2, 3, 1, 0] rfl (lX12_joinedOn_115 hr31 ?_)
    refine rn_iload (pc := 141) 0 dX12_joinedOn_141 rfl ?_
    cases h6
    exact rn_iret (pc := 143) rfl dX12_joinedOn_143
theorem eX12_joinedOn {l : Launch} {G : Gt} {d : Nat} {t0 : Nat} {p1 : Int32} {p2 : Int32} {u : Mem} {y : Int32 × Mem} (h : fX12_joinedOn t0 p1 p2 u = some y) : Ex l G iX12_joinedOn (d + 3) [rv (some t0), .int p1, .int p2] u (.returned (some (.int y.1))) y.2 := Ex.of (by decide +kernel) (by decide) (Nat.le_of_ble_eq_true rfl) rfl (tX12_joinedOn h)
theorem tX12_ready {l : Launch} {G : Gt} {d : Nat} {t0 : Nat} {u : Mem} {y : Mem} (h : fX12_ready t0 u = some y) : Rn l G iX12_ready (d + 5) 0 [(0, rv (some t0))] [] u (.returned none) y := by
  unfold fX12_ready at h
  refine rn_aload_n (pc := 0) 0 dX12_ready_0 rfl rfl ?_
  obtain ⟨b1, hb1, h1⟩ := bnd_some h
  obtain ⟨qb1, kb1⟩ := chk_elim hb1
  cases qb1
  obtain ⟨u2, hu2, h2⟩ := bnd_some h1
  refine rn_callV (pc := 1) (n := 0) (As := []) (rest := []) (eX12_prepare (d := d + 0) hu2) (by omega) okX12 kb1 tw_1267 tw_79 tw_1265 tw_1266 tw_45 (by decide +kernel) rfl (Nat.le_of_ble_eq_true rfl) dX12_ready_1 rfl ?_
  refine rn_aload_n (pc := 4) 0 dX12_ready_4 rfl rfl ?_
  obtain ⟨v3, hv3, h3⟩ := bnd_some h2
  refine rn_getI (pc := 5) (k := 2) okX12 (by decide) tw_992 rfl dX12_ready_5 hv3 ?_
  refine rn_iconst (pc := 8) (v := -1) dX12_ready_8 (by decide) ?_
  rcases if_elim h3 with ⟨c4, h4⟩ | ⟨c4, h4⟩
  · refine rn_ieq_t (pc := 9) (tgt := 16) dX12_ready_9 (by decide) c4 ?_
    cases h4
    exact rn_vret (pc := 16) rfl dX12_ready_16
  · refine rn_ieq_f (pc := 9) 16 dX12_ready_9 (by decide) c4 ?_
    refine rn_aload_n (pc := 12) 0 dX12_ready_12 rfl rfl ?_
    obtain ⟨b5, hb5, h5⟩ := bnd_some h4
    obtain ⟨qb5, kb5⟩ := chk_elim hb5
    cases qb5
    obtain ⟨u6, hu6, h6⟩ := bnd_some h5
    refine rn_callV (pc := 13) (n := 0) (As := []) (rest := []) (eX12_findCopies (d := d + 4) hu6) (by omega) okX12 kb5 tw_1330 tw_79 tw_1328 tw_1329 tw_57 (by decide +kernel) rfl (Nat.le_of_ble_eq_true rfl) dX12_ready_13 rfl ?_
    cases h6
    exact rn_vret (pc := 16) rfl dX12_ready_16
theorem eX12_ready {l : Launch} {G : Gt} {d : Nat} {t0 : Nat} {u : Mem} {y : Mem} (h : fX12_ready t0 u = some y) : Ex l G iX12_ready (d + 5) [rv (some t0)] u (.returned none) y := Ex.of (by decide +kernel) (by decide) (Nat.le_of_ble_eq_true rfl) rfl (tX12_ready h)
theorem tX12_joined {l : Launch} {G : Gt} {d : Nat} {t0 : Nat} {p1 : Int32} {p2 : Int32} {u : Mem} {y : Int32 × Mem} (h : fX12_joined t0 p1 p2 u = some y) : Rn l G iX12_joined (d + 6) 0 [(0, rv (some t0)), (1, .int p1), (2, .int p2)] [] u (.returned (some (.int y.1))) y.2 := by
  unfold fX12_joined at h
  refine rn_aload_n (pc := 0) 0 dX12_joined_0 rfl rfl ?_
  refine rn_iload_n (pc := 1) 1 dX12_joined_1 rfl rfl ?_
  obtain ⟨b1, hb1, h1⟩ := bnd_some h
  obtain ⟨qb1, kb1⟩ := chk_elim hb1
  cases qb1
  obtain ⟨v2, hv2, h2⟩ := bnd_some h1
  refine rn_callV (pc := 2) (n := 1) (As := [.int p1]) (rest := []) (eX12_isQuestion (d := d + 4) hv2) (by omega) okX12 kb1 tw_1240 tw_79 tw_1238 tw_1239 tw_43 (by decide +kernel) rfl (Nat.le_of_ble_eq_true rfl) dX12_joined_2 rfl ?_
  rcases if_elim h2 with ⟨c3, h3⟩ | ⟨c3, h3⟩
  · refine rn_zeq_t (pc := 5) (tgt := 15) dX12_joined_5 (by decide) c3 ?_
    refine rn_bipush (pc := 15) (v := -2) dX12_joined_15 (by decide) ?_
    cases h3
    exact rn_iret (pc := 17) rfl dX12_joined_17
  · refine rn_zeq_f (pc := 5) 15 dX12_joined_5 (by decide) c3 ?_
    refine rn_iload_n (pc := 8) 2 dX12_joined_8 rfl rfl ?_
    obtain ⟨v4, hv4, h4⟩ := bnd_some h3
    refine rn_callS (pc := 9) (n := 1) (As := [.int p2]) (rest := []) (eX12_isDay (d := d + 4) hv4) (by omega) tw_1232 tw_79 tw_1230 tw_1231 (by decide +kernel) rfl (Nat.le_of_ble_eq_true rfl) dX12_joined_9 rfl ?_
    rcases if_elim h4 with ⟨c5, h5⟩ | ⟨c5, h5⟩
    · refine rn_zne_f (pc := 12) 18 dX12_joined_12 (by decide) c5 ?_
      refine rn_bipush (pc := 15) (v := -2) dX12_joined_15 (by decide) ?_
      cases h5
      exact rn_iret (pc := 17) rfl dX12_joined_17
    · refine rn_zne_t (pc := 12) (tgt := 18) dX12_joined_12 (by decide) c5 ?_
      refine rn_aload_n (pc := 18) 0 dX12_joined_18 rfl rfl ?_
      obtain ⟨b6, hb6, h6⟩ := bnd_some h5
      obtain ⟨qb6, kb6⟩ := chk_elim hb6
      cases qb6
      obtain ⟨u7, hu7, h7⟩ := bnd_some h6
      refine rn_callV (pc := 19) (n := 0) (As := []) (rest := []) (eX12_ready (d := d + 0) hu7) (by omega) okX12 kb6 tw_1348 tw_79 tw_1346 tw_1347 tw_60 (by decide +kernel) rfl (Nat.le_of_ble_eq_true rfl) dX12_joined_19 rfl ?_
      refine rn_aload_n (pc := 22) 0 dX12_joined_22 rfl rfl ?_
      refine rn_iload_n (pc := 23) 1 dX12_joined_23 rfl rfl ?_
      refine rn_iload_n (pc := 24) 2 dX12_joined_24 rfl rfl ?_
      obtain ⟨b8, hb8, h8⟩ := bnd_some h7
      obtain ⟨qb8, kb8⟩ := chk_elim hb8
      cases qb8
      obtain ⟨v9, u10, hv9, h9⟩ := bnd2_some h8
      refine rn_callV (pc := 25) (n := 2) (As := [.int p1, .int p2]) (rest := []) (eX12_joinedOn (d := d + 2) hv9) (by omega) okX12 kb8 tw_1351 tw_79 tw_1349 tw_1350 tw_61 (by decide +kernel) rfl (Nat.le_of_ble_eq_true rfl) dX12_joined_25 rfl ?_
      cases h9
      exact rn_iret (pc := 28) rfl dX12_joined_28
theorem eX12_joined {l : Launch} {G : Gt} {d : Nat} {t0 : Nat} {p1 : Int32} {p2 : Int32} {u : Mem} {y : Int32 × Mem} (h : fX12_joined t0 p1 p2 u = some y) : Ex l G iX12_joined (d + 6) [rv (some t0), .int p1, .int p2] u (.returned (some (.int y.1))) y.2 := Ex.of (by decide +kernel) (by decide) (Nat.le_of_ble_eq_true rfl) rfl (tX12_joined h)
