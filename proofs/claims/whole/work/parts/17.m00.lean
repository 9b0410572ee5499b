abbrev iX12_in : MI := (yX12_in, cX12_in, 6, (some .boolean))
def fX12_in (p0 : Int64) (p2 : Int64) (p4 : Int64) (u : Mem) : Option (Int32) :=
  if (lg_cmp p0 p2) < 0 then
    some (0 : Int32)
  else
    if 0 < (lg_cmp p0 p4) then
      some (0 : Int32)
    else
      some (1 : Int32)
abbrev iX12_isDay : MI := (yX12_isDay, cX12_isDay, 1, (some .boolean))
def fX12_isDay (p0 : Int32) (u : Mem) : Option (Int32) :=
  (fX12_in (Int32.toInt64 p0) (0 : Int64) (999 : Int64) u).bind fun v1 =>
  retZ v1
abbrev iX12_wrong : MI := (yX12_wrong, cX12_wrong, 2, (some (.object "ForeBookModel$Stop")))
def fX12_wrong (t0 : Nat) (p1 : Int32) (u : Mem) : Option (Option Nat × Mem) :=
  (pfI u (some t0) 12 22 p1).bind fun u1 =>
  (gfI u1 (some t0) 12 18).bind fun v2 =>
  (pfI u1 (some t0) 12 23 v2).bind fun u3 =>
  (gfR u3 (some t0) 12 14).bind fun v4 =>
  some (v4, u3)
abbrev iX12_byteAt : MI := (yX12_byteAt, cX12_byteAt, 2, (some .int))
def fX12_byteAt (t0 : Nat) (p1 : Int32) (u : Mem) : Option (Int32) :=
  (gfI u (some t0) 12 17).bind fun v1 =>
  if p1 < v1 then
    (gfR u (some t0) 12 15).bind fun v3 =>
    (alI u v3 21 p1).bind fun v4 =>
    some (v4 &&& (255 : Int32))
  else
    some (0 : Int32)
abbrev iX12_isLetter : MI := (yX12_isLetter, cX12_isLetter, 1, (some .boolean))
def fX12_isLetter (p0 : Int32) (u : Mem) : Option (Int32) :=
  if p0 < (97 : Int32) then
    some (0 : Int32)
  else
    if (122 : Int32) < p0 then
      some (0 : Int32)
    else
      some (1 : Int32)
abbrev iX12_isDigit : MI := (yX12_isDigit, cX12_isDigit, 1, (some .boolean))
def fX12_isDigit (p0 : Int32) (u : Mem) : Option (Int32) :=
  if p0 < (48 : Int32) then
    some (0 : Int32)
  else
    if (57 : Int32) < p0 then
      some (0 : Int32)
    else
      some (1 : Int32)
abbrev iX12_scan : MI := (yX12_scan, cX12_scan, 2, (Option.none : Option FieldType))
def jX12_scan_0_39 (t0 : Nat) (u : Mem) : Option ((Mem) ⊕ (Mem)) :=
  (gfI u (some t0) 12 19).bind fun v8 =>
  (pfI u (some t0) 12 19 (v8 + (1 : Int32))).bind fun u9 =>
  some (.inl u9)
def bX12_scan_0 (t0 : Nat) (u : Mem) : Option ((Mem) ⊕ (Mem)) :=
  (gfI u (some t0) 12 19).bind fun v1 =>
  (gfI u (some t0) 12 17).bind fun v2 =>
  if v1 < v2 then
    (gfR u (some t0) 12 15).bind fun v4 =>
    (gfI u (some t0) 12 19).bind fun v5 =>
    (alI u v4 21 v5).bind fun v6 =>
    if v6 = (32 : Int32) then
      jX12_scan_0_39 t0 u
    else
      (gfR u (some t0) 12 15).bind fun v10 =>
      (gfI u (some t0) 12 19).bind fun v11 =>
      (alI u v10 21 v11).bind fun v12 =>
      if v12 = (10 : Int32) then
        jX12_scan_0_39 t0 u
      else
        some (.inr u)
  else
    some (.inr u)
def jX12_scan_242 (t0 : Nat) (w0 : Int32) (w1 : Nat) (u : Mem) : Option (Mem) :=
  (pfI u (some w1) 12 20 w0).bind fun u29 =>
  (gfI u29 (some t0) 12 19).bind fun v30 =>
  (pfI u29 (some t0) 12 19 (v30 + (1 : Int32))).bind fun u31 =>
  some u31
def jX12_scan_142_192 (t0 : Nat) (u : Mem) : Option ((Mem) ⊕ (Mem)) :=
  (gfI u (some t0) 12 19).bind fun v46 =>
  (pfI u (some t0) 12 19 (v46 + (1 : Int32))).bind fun u47 =>
  some (.inl u47)
def bX12_scan_142 (t0 : Nat) (u : Mem) : Option ((Mem) ⊕ (Mem)) :=
  (gfI u (some t0) 12 19).bind fun v33 =>
  (chk u (some t0) 12).bind fun b34 =>
  (fX12_byteAt t0 v33 u).bind fun v35 =>
  (fX12_isDigit v35 u).bind fun v36 =>
  if v36 = 0 then
    some (.inr u)
  else
    (gfI u (some t0) 12 19).bind fun v38 =>
    (gfI u (some t0) 12 18).bind fun v39 =>
    if (v38 - v39) < (4 : Int32) then
      (gfI u (some t0) 12 21).bind fun v41 =>
      (gfI u (some t0) 12 19).bind fun v42 =>
      (chk u (some t0) 12).bind fun b43 =>
      (fX12_byteAt t0 v42 u).bind fun v44 =>
      (pfI u (some t0) 12 21 ((((10 : Int32) * v41) + v44) - (48 : Int32))).bind fun u45 =>
      jX12_scan_142_192 t0 u45
    else
      jX12_scan_142_192 t0 u
def bX12_scan_95 (t0 : Nat) (u : Mem) : Option ((Mem) ⊕ (Mem)) :=
  (gfI u (some t0) 12 19).bind fun v54 =>
  (chk u (some t0) 12).bind fun b55 =>
  (fX12_byteAt t0 v54 u).bind fun v56 =>
  (fX12_isLetter v56 u).bind fun v57 =>
  if v57 = 0 then
    some (.inr u)
  else
    (gfI u (some t0) 12 19).bind fun v59 =>
    (pfI u (some t0) 12 19 (v59 + (1 : Int32))).bind fun u60 =>
    some (.inl u60)
def jX12_scan_52 (t0 : Nat) (u : Mem) : Option (Mem) :=
  (gfI u (some t0) 12 19).bind fun v15 =>
  (pfI u (some t0) 12 18 v15).bind fun u16 =>
  (gfI u16 (some t0) 12 18).bind fun v17 =>
  (chk u16 (some t0) 12).bind fun b18 =>
  (fX12_byteAt t0 v17 u16).bind fun v19 =>
  (gfI u16 (some t0) 12 18).bind fun v20 =>
  (gfI u16 (some t0) 12 17).bind fun v21 =>
  if v20 = v21 then
    (pfI u16 (some t0) 12 20 (0 : Int32)).bind fun u23 =>
    some u23
  else
    (fX12_isLetter v19 u16).bind fun v24 =>
    if v24 = 0 then
      (fX12_isDigit v19 u16).bind fun v26 =>
      if v26 = 0 then
        if v19 = (59 : Int32) then
          jX12_scan_242 t0 (3 : Int32) t0 u16
        else
          jX12_scan_242 t0 (4 : Int32) t0 u16
      else
        (pfI u16 (some t0) 12 21 (0 : Int32)).bind fun u32 =>
        (lp (fun s : Mem => bX12_scan_142 t0 s) FU u32).bind fun r48 =>
        (gfI r48 (some t0) 12 19).bind fun v49 =>
        (gfI r48 (some t0) 12 18).bind fun v50 =>
        if (4 : Int32) < (v49 - v50) then
          (pfI r48 (some t0) 12 20 (4 : Int32)).bind fun u52 =>
          some u52
        else
          (pfI r48 (some t0) 12 20 (2 : Int32)).bind fun u53 =>
          some u53
    else
      (lp (fun s : Mem => bX12_scan_95 t0 s) FU u16).bind fun r61 =>
      (pfI r61 (some t0) 12 20 (1 : Int32)).bind fun u62 =>
      some u62
def fX12_scan (t0 : Nat) (u : Mem) : Option (Mem) :=
  (lp (fun s : Mem => bX12_scan_0 t0 s) FU u).bind fun r14 =>
  jX12_scan_52 t0 r14
abbrev iX12_is : MI := (yX12_is, cX12_is, 4, (some .boolean))
def bX12_is_32 (t0 : Nat) (i1 : Option Nat) (u : Mem) (s2 : Int32) (s3 : Int32) : Option ((Int32 × Int32) ⊕ (Int32)) :=
  (fStrLen i1).bind fun v7 =>
  if s3 < v7 then
    if s2 = 0 then
      some (.inr s2)
    else
      (gfR u (some t0) 12 15).bind fun v10 =>
      (gfI u (some t0) 12 18).bind fun v11 =>
      (alI u v10 21 (v11 + s3)).bind fun v12 =>
      (fStrAt i1 s3).bind fun v13 =>
      if v12 = v13 then
        nm (s3 + 1 : Int32) fun x15 =>
        some (.inl ((1 : Int32), x15))
      else
        nm (s3 + 1 : Int32) fun x16 =>
        some (.inl ((0 : Int32), x16))
  else
    some (.inr s2)
def fX12_is (t0 : Nat) (p1 : Option Nat) (u : Mem) : Option (Int32) :=
  (gfI u (some t0) 12 20).bind fun v1 =>
  if v1 = (1 : Int32) then
    (gfI u (some t0) 12 19).bind fun v3 =>
    (gfI u (some t0) 12 18).bind fun v4 =>
    (fStrLen p1).bind fun v5 =>
    if (v3 - v4) = v5 then
      (lp (fun s : Int32 × Int32 => bX12_is_32 t0 p1 u s.1 s.2) FU ((1 : Int32), (0 : Int32))).bind fun r17 =>
      retZ r17
    else
      (lp (fun s : Int32 × Int32 => bX12_is_32 t0 p1 u s.1 s.2) FU ((0 : Int32), (0 : Int32))).bind fun r18 =>
      retZ r18
  else
    (lp (fun s : Int32 × Int32 => bX12_is_32 t0 p1 u s.1 s.2) FU ((0 : Int32), (0 : Int32))).bind fun r19 =>
    retZ r19
abbrev iX12_number : MI := (yX12_number, cX12_number, 4, (some .int))
def fX12_number (t0 : Nat) (p1 : Int32) (p2 : Int32) (u : Mem) : Option ((Int32 ⊕ Nat) × Mem) :=
  (gfI u (some t0) 12 20).bind fun v1 =>
  if v1 = (2 : Int32) then
    (gfI u (some t0) 12 21).bind fun v3 =>
    (fX12_in (Int32.toInt64 v3) (Int32.toInt64 p1) (Int32.toInt64 p2) u).bind fun v4 =>
    if v4 = 0 then
      (chk u (some t0) 12).bind fun b6 =>
      bnd2 (fX12_wrong t0 (2 : Int32) u) fun v7 u8 =>
      v7.bind fun a9 => some (.inr a9, u8)
    else
      (gfI u (some t0) 12 21).bind fun v10 =>
      (chk u (some t0) 12).bind fun b11 =>
      (fX12_scan t0 u).bind fun u12 =>
      some (.inl v10, u12)
  else
    (chk u (some t0) 12).bind fun b13 =>
    bnd2 (fX12_wrong t0 (1 : Int32) u) fun v14 u15 =>
    v14.bind fun a16 => some (.inr a16, u15)
abbrev iX12_either : MI := (yX12_either, cX12_either, 4, (some .int))
def jX12_either_35 (t0 : Nat) (w0 : Int32) (u : Mem) : Option ((Int32 ⊕ Nat) × Mem) :=
  (chk u (some t0) 12).bind fun b14 =>
  (fX12_scan t0 u).bind fun u15 =>
  some (.inl w0, u15)
def jX12_either_22 (t0 : Nat) (p1 : Option Nat) (u : Mem) : Option ((Int32 ⊕ Nat) × Mem) :=
  (chk u (some t0) 12).bind fun b11 =>
  (fX12_is t0 p1 u).bind fun v12 =>
  if v12 = 0 then
    jX12_either_35 t0 (1 : Int32) u
  else
    jX12_either_35 t0 (0 : Int32) u
def fX12_either (t0 : Nat) (p1 : Option Nat) (p2 : Option Nat) (u : Mem) : Option ((Int32 ⊕ Nat) × Mem) :=
  (chk u (some t0) 12).bind fun b1 =>
  (fX12_is t0 p1 u).bind fun v2 =>
  if v2 = 0 then
    (chk u (some t0) 12).bind fun b4 =>
    (fX12_is t0 p2 u).bind fun v5 =>
    if v5 = 0 then
      (chk u (some t0) 12).bind fun b7 =>
      bnd2 (fX12_wrong t0 (1 : Int32) u) fun v8 u9 =>
      v8.bind fun a10 => some (.inr a10, u9)
    else
      jX12_either_22 t0 p1 u
  else
    jX12_either_22 t0 p1 u
abbrev iX12_key : MI := (yX12_key, cX12_key, 1, (some .int))
def fX12_key (t0 : Nat) (u : Mem) : Option (Int32) :=
  (chk u (some t0) 12).bind fun b1 =>
  (fX12_is t0 (some 1000000) u).bind fun v2 =>
  if v2 = 0 then
    (chk u (some t0) 12).bind fun b4 =>
    (fX12_is t0 (some 1000001) u).bind fun v5 =>
    if v5 = 0 then
      (chk u (some t0) 12).bind fun b7 =>
      (fX12_is t0 (some 1000002) u).bind fun v8 =>
      if v8 = 0 then
        (chk u (some t0) 12).bind fun b10 =>
        (fX12_is t0 (some 1000003) u).bind fun v11 =>
        if v11 = 0 then
          (chk u (some t0) 12).bind fun b13 =>
          (fX12_is t0 (some 1000004) u).bind fun v14 =>
          if v14 = 0 then
            (chk u (some t0) 12).bind fun b16 =>
            (fX12_is t0 (some 1000005) u).bind fun v17 =>
            if v17 = 0 then
              some (-1 : Int32)
            else
              some (5 : Int32)
          else
            some (4 : Int32)
        else
          some (3 : Int32)
      else
        some (2 : Int32)
    else
      some (1 : Int32)
  else
    some (0 : Int32)
abbrev iX12_readLine : MI := (yX12_readLine, cX12_readLine, 3, (Option.none : Option FieldType))
def bX12_readLine_38 (t0 : Nat) (s2 : Int32) (u : Mem) : Option ((Int32 × Mem) ⊕ ((Mem) ⊕ (Nat × Mem))) :=
  if s2 < (11 : Int32) then
    (gfR u (some t0) 12 12).bind fun v3 =>
    (chk u (some t0) 12).bind fun b4 =>
    bnd2 (fX12_number t0 (0 : Int32) (1000 : Int32) u) fun r5 u6 =>
    sumE r5 (fun v7 =>
      (asI u6 v3 20 s2 v7).bind fun u9 =>
      nm (s2 + 1 : Int32) fun x10 =>
      some (.inl (x10, u9))) (fun a8 =>
      some (.inr (.inr (a8, u6))))
  else
    some (.inr (.inl u))
def bX12_readLine_69 (t0 : Nat) (s2 : Int32) (u : Mem) : Option ((Int32 × Mem) ⊕ ((Mem) ⊕ (Nat × Mem))) :=
  if s2 < (11 : Int32) then
    (gfR u (some t0) 12 13).bind fun v16 =>
    (chk u (some t0) 12).bind fun b17 =>
    bnd2 (fX12_number t0 (0 : Int32) (1000 : Int32) u) fun r18 u19 =>
    sumE r18 (fun v20 =>
      (asI u19 v16 20 s2 v20).bind fun u22 =>
      nm (s2 + 1 : Int32) fun x23 =>
      some (.inl (x23, u22))) (fun a21 =>
      some (.inr (.inr (a21, u19))))
  else
    some (.inr (.inl u))
def fX12_readLine (t0 : Nat) (p1 : Int32) (u : Mem) : Option ((Unit ⊕ Nat) × Mem) :=
  if p1 = 0 then
    (lp (fun s : Int32 × Mem => bX12_readLine_38 t0 s.1 s.2) FU ((0 : Int32), u)).bind fun r11 =>
    sumE r11 (fun r12 =>
      some (.inl (), r12)) (fun r13 =>
      some (.inr r13.1, r13.2))
  else if p1 = 1 then
      (lp (fun s : Int32 × Mem => bX12_readLine_69 t0 s.1 s.2) FU ((0 : Int32), u)).bind fun r24 =>
      sumE r24 (fun r25 =>
        some (.inl (), r25)) (fun r26 =>
        some (.inr r26.1, r26.2))
    else if p1 = 2 then
        (chk u (some t0) 12).bind fun b28 =>
        bnd2 (fX12_either t0 (some 1000006) (some 1000007) u) fun r29 u30 =>
        sumE r29 (fun v31 =>
          (pfI u30 (some t0) 12 5 v31).bind fun u33 =>
          some (.inl (), u33)) (fun a32 =>
          some (.inr a32, u30))
      else if p1 = 3 then
          (chk u (some t0) 12).bind fun b35 =>
          bnd2 (fX12_either t0 (some 1000008) (some 1000009) u) fun r36 u37 =>
          sumE r36 (fun v38 =>
            (pfI u37 (some t0) 12 6 v38).bind fun u40 =>
            some (.inl (), u40)) (fun a39 =>
            some (.inr a39, u37))
        else if p1 = 4 then
            (chk u (some t0) 12).bind fun b42 =>
            bnd2 (fX12_number t0 (1 : Int32) (30 : Int32) u) fun r43 u44 =>
            sumE r43 (fun v45 =>
              (pfI u44 (some t0) 12 7 v45).bind fun u47 =>
              (chk u47 (some t0) 12).bind fun b48 =>
              bnd2 (fX12_number t0 (1 : Int32) (99 : Int32) u47) fun r49 u50 =>
              sumE r49 (fun v51 =>
                (pfI u50 (some t0) 12 8 v51).bind fun u53 =>
                some (.inl (), u53)) (fun a52 =>
                some (.inr a52, u50))) (fun a46 =>
              some (.inr a46, u44))
          else 
            (chk u (some t0) 12).bind fun b54 =>
            bnd2 (fX12_number t0 (1 : Int32) (99 : Int32) u) fun r55 u56 =>
            sumE r55 (fun v57 =>
              (pfI u56 (some t0) 12 9 v57).bind fun u59 =>
              some (.inl (), u59)) (fun a58 =>
              some (.inr a58, u56))
abbrev iX12_readRules : MI := (yX12_readRules, cX12_readRules, 3, (some .int))
def bX12_readRules_2 (t0 : Nat) (s1 : Int32) (u : Mem) : Option ((Int32 × Mem) ⊕ (Mem)) :=
  if s1 < (11 : Int32) then
    (gfR u (some t0) 12 12).bind fun v2 =>
    (asI u v2 20 s1 ((((10 : Int32) - s1) * ((10 : Int32) - s1)))).bind fun u3 =>
    (gfR u3 (some t0) 12 13).bind fun v4 =>
    (asI u3 v4 20 s1 ((s1 * s1))).bind fun u5 =>
    nm (s1 + 1 : Int32) fun x6 =>
    some (.inl (x6, u5))
  else
    some (.inr u)
def bX12_readRules_65 (t0 : Nat) (s1 : Int32) (u : Mem) : Option ((Int32 × Mem) ⊕ (Mem)) :=
  (gfR u (some t0) 12 24).bind fun v13 =>
  (aln u v13 22).bind fun v14 =>
  if s1 < v14 then
    (gfR u (some t0) 12 24).bind fun v16 =>
    (asI u v16 22 s1 (((0 : Int32) &&& 1))).bind fun u17 =>
    nm (s1 + 1 : Int32) fun x18 =>
    some (.inl (x18, u17))
  else
    some (.inr u)
def bX12_readRules_89 (t0 : Nat) (s1 : Int32) (u : Mem) : Option ((Int32 × Mem) ⊕ ((Int32 × Mem) ⊕ ((Mem) ⊕ ((Mem) ⊕ ((Mem) ⊕ (Nat × Mem)))))) :=
  (gfI u (some t0) 12 20).bind fun v20 =>
  if v20 = 0 then
    some (.inr (.inl (s1, u)))
  else
    (chk u (some t0) 12).bind fun b22 =>
    (fX12_key t0 u).bind fun v23 =>
    if v23 = (-1 : Int32) then
      some (.inr (.inr (.inl u)))
    else
      (gfR u (some t0) 12 24).bind fun v25 =>
      (alI u v25 22 v23).bind fun v26 =>
      if v26 = 0 then
        (gfR u (some t0) 12 24).bind fun v28 =>
        (asI u v28 22 v23 (((1 : Int32) &&& 1))).bind fun u29 =>
        (chk u29 (some t0) 12).bind fun b30 =>
        (fX12_scan t0 u29).bind fun u31 =>
        (chk u31 (some t0) 12).bind fun b32 =>
        bnd2 (fX12_readLine t0 v23 u31) fun r33 u34 =>
        sumE r33 (fun v35 =>
          (gfI u34 (some t0) 12 20).bind fun v37 =>
          if v37 = (3 : Int32) then
            (chk u34 (some t0) 12).bind fun b39 =>
            (fX12_scan t0 u34).bind fun u40 =>
            nm (s1 + 1 : Int32) fun x41 =>
            some (.inl (x41, u40))
          else
            some (.inr (.inr (.inr (.inr (.inl u34)))))) (fun a36 =>
          some (.inr (.inr (.inr (.inr (.inr (a36, u34)))))))
      else
        some (.inr (.inr (.inr (.inl u))))
def fX12_readRules (t0 : Nat) (u : Mem) : Option ((Int32 ⊕ Nat) × Mem) :=
  (lp (fun s : Int32 × Mem => bX12_readRules_2 t0 s.1 s.2) FU ((0 : Int32), u)).bind fun r7 =>
  (pfI r7 (some t0) 12 5 (0 : Int32)).bind fun u8 =>
  (pfI u8 (some t0) 12 6 (0 : Int32)).bind fun u9 =>
  (pfI u9 (some t0) 12 7 (-1 : Int32)).bind fun u10 =>
  (pfI u10 (some t0) 12 8 (-1 : Int32)).bind fun u11 =>
  (pfI u11 (some t0) 12 9 (1 : Int32)).bind fun u12 =>
  (lp (fun s : Int32 × Mem => bX12_readRules_65 t0 s.1 s.2) FU ((0 : Int32), u12)).bind fun r19 =>
  (lp (fun s : Int32 × Mem => bX12_readRules_89 t0 s.1 s.2) FU ((0 : Int32), r19)).bind fun r42 =>
  sumE r42 (fun r43 =>
    some (.inl r43.1, r43.2)) (fun r44 =>
    sumE r44 (fun r45 =>
      (chk r45 (some t0) 12).bind fun b47 =>
      bnd2 (fX12_wrong t0 (1 : Int32) r45) fun v48 u49 =>
      v48.bind fun a50 => some (.inr a50, u49)) (fun r46 =>
      sumE r46 (fun r51 =>
        (chk r51 (some t0) 12).bind fun b53 =>
        bnd2 (fX12_wrong t0 (3 : Int32) r51) fun v54 u55 =>
        v54.bind fun a56 => some (.inr a56, u55)) (fun r52 =>
        sumE r52 (fun r57 =>
          (chk r57 (some t0) 12).bind fun b59 =>
          bnd2 (fX12_wrong t0 (1 : Int32) r57) fun v60 u61 =>
          v60.bind fun a62 => some (.inr a62, u61)) (fun r58 =>
          some (.inr r58.1, r58.2)))))
abbrev iX12_lay : MI := (yX12_lay, cX12_lay, 3, (Option.none : Option FieldType))
def bX12_lay_3 (t0 : Nat) (i1 : Int32) (s2 : Int32) (u : Mem) : Option ((Int32 × Mem) ⊕ (Mem)) :=
  if s2 < 0 then
    some (.inr u)
  else
    (gfR u (some t0) 12 15).bind fun v2 =>
    (gfI u (some t0) 12 16).bind fun v3 =>
    (asI u v2 21 v3 ((Int32.toInt8 ((Int32.toInt8 (i1 >>> (s2 &&& 31))).toInt32)).toInt32)).bind fun u4 =>
    (gfI u4 (some t0) 12 16).bind fun v5 =>
    (pfI u4 (some t0) 12 16 (v5 + (1 : Int32))).bind fun u6 =>
    nm (s2 + (-8) : Int32) fun x7 =>
    some (.inl (x7, u6))
def fX12_lay (t0 : Nat) (p1 : Int32) (u : Mem) : Option (Mem) :=
  (lp (fun s : Int32 × Mem => bX12_lay_3 t0 p1 s.1 s.2) FU ((24 : Int32), u)).bind fun r8 =>
  some r8
abbrev iX12_feed : MI := (yX12_feed, cX12_feed, 6, (some .int))
def fX12_feed (t0 : Nat) (p1 : Int32) (p2 : Int32) (p3 : Int32) (p4 : Int32) (p5 : Int32) (u : Mem) : Option (Int32 × Mem) :=
  (gfI u (some t0) 12 16).bind fun v1 =>
  if (500 : Int32) < (v1 + (20 : Int32)) then
    some ((-3 : Int32), u)
  else
    (chk u (some t0) 12).bind fun b3 =>
    (fX12_lay t0 p1 u).bind fun u4 =>
    (chk u4 (some t0) 12).bind fun b5 =>
    (fX12_lay t0 p2 u4).bind fun u6 =>
    (chk u6 (some t0) 12).bind fun b7 =>
    (fX12_lay t0 p3 u6).bind fun u8 =>
    (chk u8 (some t0) 12).bind fun b9 =>
    (fX12_lay t0 p4 u8).bind fun u10 =>
    (chk u10 (some t0) 12).bind fun b11 =>
    (fX12_lay t0 p5 u10).bind fun u12 =>
    (gfI u12 (some t0) 12 16).bind fun v13 =>
    some (v13, u12)
abbrev iX12_end : MI := (yX12_end, cX12_end, 2, (some .int))
def fX12_end (t0 : Nat) (p1 : Int32) (u : Mem) : Option (Int32 × Mem) :=
  (gfI u (some t0) 12 16).bind fun v1 =>
  (fX12_in (Int32.toInt64 p1) (0 : Int64) (Int32.toInt64 v1) u).bind fun v2 =>
  if v2 = 0 then
    some ((-1 : Int32), u)
  else
    (pfI u (some t0) 12 16 p1).bind fun u4 =>
    some (p1, u4)
abbrev iX12_rules : MI := (yX12_rules, cX12_rules, 3, (some .int))
def bX12_rules_45 (t0 : Nat) (i1 : Int32) (s2 : Int32) (u : Mem) : Option ((Int32 × Mem) ⊕ (Mem)) :=
  if s2 < (11 : Int32) then
    (gfR u (some t0) 12 10).bind fun v15 =>
    (gfR u (some t0) 12 12).bind fun v16 =>
    (alI u v16 20 s2).bind fun v17 =>
    (asI u v15 20 s2 v17).bind fun u18 =>
    (gfR u18 (some t0) 12 11).bind fun v19 =>
    (gfR u18 (some t0) 12 13).bind fun v20 =>
    (alI u18 v20 20 s2).bind fun v21 =>
    (asI u18 v19 20 s2 v21).bind fun u22 =>
    nm (s2 + 1 : Int32) fun x23 =>
    some (.inl (x23, u22))
  else
    some (.inr u)
def fX12_rules (t0 : Nat) (u : Mem) : Option (Int32 × Mem) :=
  (gfI u (some t0) 12 16).bind fun v1 =>
  (pfI u (some t0) 12 17 v1).bind fun u2 =>
  (pfI u2 (some t0) 12 16 (0 : Int32)).bind fun u3 =>
  (pfI u3 (some t0) 12 19 (0 : Int32)).bind fun u4 =>
  (pfI u4 (some t0) 12 22 (0 : Int32)).bind fun u5 =>
  (pfI u5 (some t0) 12 23 (-1 : Int32)).bind fun u6 =>
  (chk u6 (some t0) 12).bind fun b7 =>
  (fX12_scan t0 u6).bind fun u8 =>
  (chk u8 (some t0) 12).bind fun b9 =>
  bnd2 (fX12_readRules t0 u8) fun r10 u11 =>
  sumE r10 (fun v12 =>
    (lp (fun s : Int32 × Mem => bX12_rules_45 t0 v12 s.1 s.2) FU ((0 : Int32), u11)).bind fun r24 =>
    (gfI r24 (some t0) 12 5).bind fun v25 =>
    (pfI r24 (some t0) 12 0 v25).bind fun u26 =>
    (gfI u26 (some t0) 12 6).bind fun v27 =>
    (pfI u26 (some t0) 12 1 v27).bind fun u28 =>
    (gfI u28 (some t0) 12 7).bind fun v29 =>
    (pfI u28 (some t0) 12 2 v29).bind fun u30 =>
    (gfI u30 (some t0) 12 8).bind fun v31 =>
    (pfI u30 (some t0) 12 3 v31).bind fun u32 =>
    (gfI u32 (some t0) 12 9).bind fun v33 =>
    (pfI u32 (some t0) 12 4 v33).bind fun u34 =>
    some (v12, u34)) (fun a13 =>
    (chk u11 (some a13) 11).bind fun k35 =>
    some ((-1 : Int32), u11))
abbrev iX12_fault : MI := (yX12_fault, cX12_fault, 2, (some .int))
def fX12_fault (t0 : Nat) (p1 : Int32) (u : Mem) : Option (Int32) :=
  if p1 = 0 then
    (gfI u (some t0) 12 22).bind fun v2 =>
    some v2
  else
    if p1 = (1 : Int32) then
      (gfI u (some t0) 12 23).bind fun v4 =>
      some v4
    else
      some (-1 : Int32)
abbrev iX12_rule : MI := (yX12_rule, cX12_rule, 2, (some .int))
def fX12_rule (t0 : Nat) (p1 : Int32) (u : Mem) : Option (Int32) :=
  (fX12_in (Int32.toInt64 p1) (10 : Int64) (20 : Int64) u).bind fun v1 =>
  if v1 = 0 then
    (fX12_in (Int32.toInt64 p1) (30 : Int64) (40 : Int64) u).bind fun v3 =>
    if v3 = 0 then
      if p1 = 0 then
        (gfI u (some t0) 12 0).bind fun v6 =>
        some v6
      else if p1 = 1 then
          (gfI u (some t0) 12 1).bind fun v8 =>
          some v8
        else if p1 = 2 then
            (gfI u (some t0) 12 2).bind fun v10 =>
            some v10
          else if p1 = 3 then
              (gfI u (some t0) 12 3).bind fun v12 =>
              some v12
            else if p1 = 4 then
                (gfI u (some t0) 12 4).bind fun v14 =>
                some v14
              else 
                some (-9 : Int32)
    else
      (gfR u (some t0) 12 11).bind fun v15 =>
      (alI u v15 20 (p1 - (30 : Int32))).bind fun v16 =>
      some v16
  else
    (gfR u (some t0) 12 10).bind fun v17 =>
    (alI u v17 20 (p1 - (10 : Int32))).bind fun v18 =>
    some v18
abbrev iX12_isQuestion : MI := (yX12_isQuestion, cX12_isQuestion, 2, (some .boolean))
def fX12_isQuestion (t0 : Nat) (p1 : Int32) (u : Mem) : Option (Int32) :=
  (gfI u (some t0) 12 25).bind fun v1 =>
  (fX12_in (Int32.toInt64 p1) (0 : Int64) ((Int32.toInt64 v1) - (1 : Int64)) u).bind fun v2 =>
  retZ v2
abbrev iX12_isGuesser : MI := (yX12_isGuesser, cX12_isGuesser, 1, (some .boolean))
def fX12_isGuesser (p0 : Int32) (u : Mem) : Option (Int32) :=
  (fX12_in (Int32.toInt64 p0) (0 : Int64) (19 : Int64) u).bind fun v1 =>
  retZ v1
abbrev iX12_question : MI := (yX12_question, cX12_question, 3, (some .int))
def fX12_question (t0 : Nat) (p1 : Int32) (p2 : Int32) (u : Mem) : Option (Int32 × Mem) :=
  (fX12_isDay p1 u).bind fun v1 =>
  if v1 = 0 then
    some ((-2 : Int32), u)
  else
    (fX12_in (Int32.toInt64 p2) (Int32.toInt64 p1) (999 : Int64) u).bind fun v3 =>
    if v3 = 0 then
      some ((-2 : Int32), u)
    else
      if (p2 - p1) < (60 : Int32) then
        (gfI u (some t0) 12 25).bind fun v6 =>
        if v6 = (20 : Int32) then
          some ((-3 : Int32), u)
        else
          (gfR u (some t0) 12 28).bind fun v8 =>
          (gfI u (some t0) 12 25).bind fun v9 =>
          (asI u v8 20 v9 p1).bind fun u10 =>
          (gfR u10 (some t0) 12 29).bind fun v11 =>
          (gfI u10 (some t0) 12 25).bind fun v12 =>
          (asI u10 v11 20 v12 p2).bind fun u13 =>
          (gfR u13 (some t0) 12 30).bind fun v14 =>
          (gfI u13 (some t0) 12 25).bind fun v15 =>
          (asI u13 v14 20 v15 (3 : Int32)).bind fun u16 =>
          (gfR u16 (some t0) 12 31).bind fun v17 =>
          (gfI u16 (some t0) 12 25).bind fun v18 =>
          (asI u16 v17 20 v18 (-1 : Int32)).bind fun u19 =>
          (gfI u19 (some t0) 12 25).bind fun v20 =>
          (pfI u19 (some t0) 12 25 (v20 + (1 : Int32))).bind fun u21 =>
          (gfI u21 (some t0) 12 25).bind fun v22 =>
          some (v22 - (1 : Int32), u21)
      else
        some ((-2 : Int32), u)
abbrev iX12_tell : MI := (yX12_tell, cX12_tell, 5, (some .int))
def jX12_tell_56 (t0 : Nat) (p1 : Int32) (p2 : Int32) (p3 : Int32) (u : Mem) : Option (Int32 × Mem) :=
  (gfR u (some t0) 12 30).bind fun v11 =>
  (alI u v11 20 p1).bind fun v12 =>
  (gfR u (some t0) 12 30).bind fun v13 =>
  (asI u v13 20 p1 p2).bind fun u14 =>
  (gfR u14 (some t0) 12 31).bind fun v15 =>
  if p2 < (2 : Int32) then
    (asI u14 v15 20 p1 p3).bind fun u17 =>
    some (v12, u17)
  else
    (asI u14 v15 20 p1 (-1 : Int32)).bind fun u18 =>
    some (v12, u18)
def fX12_tell (t0 : Nat) (p1 : Int32) (p2 : Int32) (p3 : Int32) (u : Mem) : Option (Int32 × Mem) :=
  (chk u (some t0) 12).bind fun b1 =>
  (fX12_isQuestion t0 p1 u).bind fun v2 =>
  if v2 = 0 then
    some ((-2 : Int32), u)
  else
    (fX12_in (Int32.toInt64 p2) (0 : Int64) (3 : Int64) u).bind fun v4 =>
    if v4 = 0 then
      some ((-2 : Int32), u)
    else
      if p2 < (2 : Int32) then
        (gfR u (some t0) 12 28).bind fun v7 =>
        (alI u v7 20 p1).bind fun v8 =>
        (fX12_in (Int32.toInt64 p3) (Int32.toInt64 v8) (999 : Int64) u).bind fun v9 =>
        if v9 = 0 then
          some ((-2 : Int32), u)
        else
          jX12_tell_56 t0 p1 p2 p3 u
      else
        if p3 = 0 then
          jX12_tell_56 t0 p1 p2 p3 u
        else
          some ((-2 : Int32), u)
theorem tX12_in {l : Launch} {G : Gt} {d : Nat} {p0 : Int64} {p2 : Int64} {p4 : Int64} {u : Mem} {y : Int32} (h : fX12_in p0 p2 p4 u = some y) : Rn l G iX12_in d 0 [(0, .long p0), (2, .long p2), (4, .long p4)] [] u (.returned (some (.int y))) u := by
  unfold fX12_in at h
  refine rn_lload_n (pc := 0) 0 dX12_in_0 rfl rfl ?_
  refine rn_lload_n (pc := 1) 1 dX12_in_1 rfl rfl ?_
  refine rn_lcmp (pc := 2) dX12_in_2 ?_
  rcases if_elim h with ⟨c1, h1⟩ | ⟨c1, h1⟩
  · refine rn_zlt_t (pc := 3) (tgt := 17) dX12_in_3 (by decide) c1 ?_
    refine rn_iconst (pc := 17) (v := 0) dX12_in_17 (by decide) ?_
    cases h1
    exact rn_zret (pc := 18) (by decide) rfl dX12_in_18
  · refine rn_zlt_f (pc := 3) 17 dX12_in_3 (by decide) c1 ?_
    refine rn_lload_n (pc := 6) 0 dX12_in_6 rfl rfl ?_
    refine rn_lload (pc := 7) 2 dX12_in_7 rfl ?_
    refine rn_lcmp (pc := 9) dX12_in_9 ?_
    rcases if_elim h1 with ⟨c2, h2⟩ | ⟨c2, h2⟩
    · refine rn_zgt_t (pc := 10) (tgt := 17) dX12_in_10 (by decide) c2 ?_
      refine rn_iconst (pc := 17) (v := 0) dX12_in_17 (by decide) ?_
      cases h2
      exact rn_zret (pc := 18) (by decide) rfl dX12_in_18
    · refine rn_zgt_f (pc := 10) 17 dX12_in_10 (by decide) c2 ?_
      refine rn_iconst (pc := 13) (v := 1) dX12_in_13 (by decide) ?_
      refine rn_goto (pc := 14) (tgt := 18) dX12_in_14 (by decide) ?_
      cases h2
      exact rn_zret (pc := 18) (by decide) rfl dX12_in_18
theorem eX12_in {l : Launch} {G : Gt} {d : Nat} {p0 : Int64} {p2 : Int64} {p4 : Int64} {u : Mem} {y : Int32} (h : fX12_in p0 p2 p4 u = some y) : Ex l G iX12_in d [.long p0, .long p2, .long p4] u (.returned (some (.int y))) u := Ex.of (by decide +kernel) (by decide) (Nat.le_of_ble_eq_true rfl) rfl (tX12_in h)
theorem tX12_isDay {l : Launch} {G : Gt} {d : Nat} {p0 : Int32} {u : Mem} {y : Int32} (h : fX12_isDay p0 u = some y) : Rn l G iX12_isDay (d + 1) 0 [(0, .int p0)] [] u (.returned (some (.int y))) u := by
  unfold fX12_isDay at h
  refine rn_iload_n (pc := 0) 0 dX12_isDay_0 rfl rfl ?_
  refine rn_i2l (pc := 1) dX12_isDay_1 ?_
  refine rn_lconst (pc := 2) (v := 0) dX12_isDay_2 (by decide) ?_
  refine rn_ldc2 (pc := 3) tw_1236 dX12_isDay_3 ?_
  obtain ⟨v1, hv1, h1⟩ := bnd_some h
  refine rn_callS (pc := 6) (n := 3) (As := [.long (Int32.toInt64 p0), .long (0 : Int64), .long (999 : Int64)]) (rest := []) (eX12_in (d := d + 0) hv1) (by omega) tw_1177 tw_79 tw_1175 tw_1176 (by decide +kernel) rfl (Nat.le_of_ble_eq_true rfl) dX12_isDay_6 rfl ?_
  obtain ⟨rfl, hz⟩ := retZ_elim h1
  exact rn_zret (pc := 9) hz rfl dX12_isDay_9
theorem eX12_isDay {l : Launch} {G : Gt} {d : Nat} {p0 : Int32} {u : Mem} {y : Int32} (h : fX12_isDay p0 u = some y) : Ex l G iX12_isDay (d + 1) [.int p0] u (.returned (some (.int y))) u := Ex.of (by decide +kernel) (by decide) (Nat.le_of_ble_eq_true rfl) rfl (tX12_isDay h)
theorem tX12_wrong {l : Launch} {G : Gt} {d : Nat} {t0 : Nat} {p1 : Int32} {u : Mem} {y : Option Nat × Mem} (h : fX12_wrong t0 p1 u = some y) : Rn l G iX12_wrong d 0 [(0, rv (some t0)), (1, .int p1)] [] u (.returned (some (rv y.1))) y.2 := by
  unfold fX12_wrong at h
  refine rn_aload_n (pc := 0) 0 dX12_wrong_0 rfl rfl ?_
  refine rn_iload_n (pc := 1) 1 dX12_wrong_1 rfl rfl ?_
  obtain ⟨u1, hu1, h1⟩ := bnd_some h
  refine rn_putI (pc := 2) (k := 22) okX12 (by decide) tw_1015 (Or.inl rfl) (Or.inl rfl) dX12_wrong_2 hu1 ?_
  refine rn_aload_n (pc := 5) 0 dX12_wrong_5 rfl rfl ?_
  refine rn_aload_n (pc := 6) 0 dX12_wrong_6 rfl rfl ?_
  obtain ⟨v2, hv2, h2⟩ := bnd_some h1
  refine rn_getI (pc := 7) (k := 18) okX12 (by decide) tw_1011 rfl dX12_wrong_7 hv2 ?_
  obtain ⟨u3, hu3, h3⟩ := bnd_some h2
  refine rn_putI (pc := 10) (k := 23) okX12 (by decide) tw_1016 (Or.inl rfl) (Or.inl rfl) dX12_wrong_10 hu3 ?_
  refine rn_aload_n (pc := 13) 0 dX12_wrong_13 rfl rfl ?_
  obtain ⟨v4, hv4, h4⟩ := bnd_some h3
  refine rn_getR (pc := 14) (k := 14) okX12 (by decide) tw_1007 rfl dX12_wrong_14 hv4 ?_
  cases h4
  exact rn_aret (pc := 17) rfl dX12_wrong_17
theorem eX12_wrong {l : Launch} {G : Gt} {d : Nat} {t0 : Nat} {p1 : Int32} {u : Mem} {y : Option Nat × Mem} (h : fX12_wrong t0 p1 u = some y) : Ex l G iX12_wrong d [rv (some t0), .int p1] u (.returned (some (rv y.1))) y.2 := Ex.of (by decide +kernel) (by decide) (Nat.le_of_ble_eq_true rfl) rfl (tX12_wrong h)
theorem tX12_byteAt {l : Launch} {G : Gt} {d : Nat} {t0 : Nat} {p1 : Int32} {u : Mem} {y : Int32} (h : fX12_byteAt t0 p1 u = some y) : Rn l G iX12_byteAt d 0 [(0, rv (some t0)), (1, .int p1)] [] u (.returned (some (.int y))) u := by
  unfold fX12_byteAt at h
  refine rn_iload_n (pc := 0) 1 dX12_byteAt_0 rfl rfl ?_
  refine rn_aload_n (pc := 1) 0 dX12_byteAt_1 rfl rfl ?_
  obtain ⟨v1, hv1, h1⟩ := bnd_some h
  refine rn_getI (pc := 2) (k := 17) okX12 (by decide) tw_1010 rfl dX12_byteAt_2 hv1 ?_
  rcases if_elim h1 with ⟨c2, h2⟩ | ⟨c2, h2⟩
  · refine rn_ige_f (pc := 5) 21 dX12_byteAt_5 (by decide) c2 ?_
    refine rn_aload_n (pc := 8) 0 dX12_byteAt_8 rfl rfl ?_
    obtain ⟨v3, hv3, h3⟩ := bnd_some h2
    refine rn_getR (pc := 9) (k := 15) okX12 (by decide) tw_1008 rfl dX12_byteAt_9 hv3 ?_
    refine rn_iload_n (pc := 12) 1 dX12_byteAt_12 rfl rfl ?_
    obtain ⟨v4, hv4, h4⟩ := bnd_some h3
    refine rn_bald (pc := 13) dX12_byteAt_13 hv4 ?_
    refine rn_sipush (pc := 14) (v := 255) dX12_byteAt_14 (by decide) ?_
    refine rn_iand (pc := 17) dX12_byteAt_17 ?_
    refine rn_goto (pc := 18) (tgt := 22) dX12_byteAt_18 (by decide) ?_
    cases h4
    exact rn_iret (pc := 22) rfl dX12_byteAt_22
  · refine rn_ige_t (pc := 5) (tgt := 21) dX12_byteAt_5 (by decide) c2 ?_
    refine rn_iconst (pc := 21) (v := 0) dX12_byteAt_21 (by decide) ?_
    cases h2
    exact rn_iret (pc := 22) rfl dX12_byteAt_22
theorem eX12_byteAt {l : Launch} {G : Gt} {d : Nat} {t0 : Nat} {p1 : Int32} {u : Mem} {y : Int32} (h : fX12_byteAt t0 p1 u = some y) : Ex l G iX12_byteAt d [rv (some t0), .int p1] u (.returned (some (.int y))) u := Ex.of (by decide +kernel) (by decide) (Nat.le_of_ble_eq_true rfl) rfl (tX12_byteAt h)
theorem tX12_isLetter {l : Launch} {G : Gt} {d : Nat} {p0 : Int32} {u : Mem} {y : Int32} (h : fX12_isLetter p0 u = some y) : Rn l G iX12_isLetter d 0 [(0, .int p0)] [] u (.returned (some (.int y))) u := by
  unfold fX12_isLetter at h
  refine rn_iload_n (pc := 0) 0 dX12_isLetter_0 rfl rfl ?_
  refine rn_bipush (pc := 1) (v := 97) dX12_isLetter_1 (by decide) ?_
  rcases if_elim h with ⟨c1, h1⟩ | ⟨c1, h1⟩
  · refine rn_ilt_t (pc := 3) (tgt := 16) dX12_isLetter_3 (by decide) c1 ?_
    refine rn_iconst (pc := 16) (v := 0) dX12_isLetter_16 (by decide) ?_
    cases h1
    exact rn_zret (pc := 17) (by decide) rfl dX12_isLetter_17
  · refine rn_ilt_f (pc := 3) 16 dX12_isLetter_3 (by decide) c1 ?_
    refine rn_iload_n (pc := 6) 0 dX12_isLetter_6 rfl rfl ?_
    refine rn_bipush (pc := 7) (v := 122) dX12_isLetter_7 (by decide) ?_
    rcases if_elim h1 with ⟨c2, h2⟩ | ⟨c2, h2⟩
    · refine rn_igt_t (pc := 9) (tgt := 16) dX12_isLetter_9 (by decide) c2 ?_
      refine rn_iconst (pc := 16) (v := 0) dX12_isLetter_16 (by decide) ?_
      cases h2
      exact rn_zret (pc := 17) (by decide) rfl dX12_isLetter_17
    · refine rn_igt_f (pc := 9) 16 dX12_isLetter_9 (by decide) c2 ?_
      refine rn_iconst (pc := 12) (v := 1) dX12_isLetter_12 (by decide) ?_
      refine rn_goto (pc := 13) (tgt := 17) dX12_isLetter_13 (by decide) ?_
      cases h2
      exact rn_zret (pc := 17) (by decide) rfl dX12_isLetter_17
theorem eX12_isLetter {l : Launch} {G : Gt} {d : Nat} {p0 : Int32} {u : Mem} {y : Int32} (h : fX12_isLetter p0 u = some y) : Ex l G iX12_isLetter d [.int p0] u (.returned (some (.int y))) u := Ex.of (by decide +kernel) (by decide) (Nat.le_of_ble_eq_true rfl) rfl (tX12_isLetter h)
theorem tX12_isDigit {l : Launch} {G : Gt} {d : Nat} {p0 : Int32} {u : Mem} {y : Int32} (h : fX12_isDigit p0 u = some y) : Rn l G iX12_isDigit d 0 [(0, .int p0)] [] u (.returned (some (.int y))) u := by
  unfold fX12_isDigit at h
  refine rn_iload_n (pc := 0) 0 dX12_isDigit_0 rfl rfl ?_
  refine rn_bipush (pc := 1) (v := 48) dX12_isDigit_1 (by decide) ?_
  rcases if_elim h with ⟨c1, h1⟩ | ⟨c1, h1⟩
  · refine rn_ilt_t (pc := 3) (tgt := 16) dX12_isDigit_3 (by decide) c1 ?_
    refine rn_iconst (pc := 16) (v := 0) dX12_isDigit_16 (by decide) ?_
    cases h1
    exact rn_zret (pc := 17) (by decide) rfl dX12_isDigit_17
  · refine rn_ilt_f (pc := 3) 16 dX12_isDigit_3 (by decide) c1 ?_
    refine rn_iload_n (pc := 6) 0 dX12_isDigit_6 rfl rfl ?_
    refine rn_bipush (pc := 7) (v := 57) dX12_isDigit_7 (by decide) ?_
    rcases if_elim h1 with ⟨c2, h2⟩ | ⟨c2, h2⟩
    · refine rn_igt_t (pc := 9) (tgt := 16) dX12_isDigit_9 (by decide) c2 ?_
      refine rn_iconst (pc := 16) (v := 0) dX12_isDigit_16 (by decide) ?_
      cases h2
      exact rn_zret (pc := 17) (by decide) rfl dX12_isDigit_17
    · refine rn_igt_f (pc := 9) 16 dX12_isDigit_9 (by decide) c2 ?_
      refine rn_iconst (pc := 12) (v := 1) dX12_isDigit_12 (by decide) ?_
      refine rn_goto (pc := 13) (tgt := 17) dX12_isDigit_13 (by decide) ?_
      cases h2
      exact rn_zret (pc := 17) (by decide) rfl dX12_isDigit_17
theorem eX12_isDigit {l : Launch} {G : Gt} {d : Nat} {p0 : Int32} {u : Mem} {y : Int32} (h : fX12_isDigit p0 u = some y) : Ex l G iX12_isDigit d [.int p0] u (.returned (some (.int y))) u := Ex.of (by decide +kernel) (by decide) (Nat.le_of_ble_eq_true rfl) rfl (tX12_isDigit h)
theorem jtX12_scan_0_39 {l : Launch} {G : Gt} {d : Nat} {t0 : Nat} {u : Mem}  {y : (Mem) ⊕ (Mem)} {o : Outcome} {u' : Mem} (h : jX12_scan_0_39 t0 u = some y) (k0 : ∀ s' : Mem, y = .inl s' → Rn l G iX12_scan (d + 1) 0 [(0, rv (some t0))] [] s' o u') (k1 : ∀ r : Mem, y = .inr (r) → Rn l G iX12_scan (d + 1) 52 [(0, rv (some t0))] [] r o u') : Rn l G iX12_scan (d + 1) 39 [(0, rv (some t0))] [] u o u' := by
  unfold jX12_scan_0_39 at h
  refine rn_aload_n (pc := 39) 0 dX12_scan_39 rfl rfl ?_
  refine rn_dup (pc := 40) dX12_scan_40 (rv_cat _) ?_
  obtain ⟨v8, hv8, h1⟩ := bnd_some h
  refine rn_getI (pc := 41) (k := 19) okX12 (by decide) tw_1012 rfl dX12_scan_41 hv8 ?_
  refine rn_iconst (pc := 44) (v := 1) dX12_scan_44 (by decide) ?_
  refine rn_iadd (pc := 45) dX12_scan_45 ?_
  obtain ⟨u9, hu9, h2⟩ := bnd_some h1
  refine rn_putI (pc := 46) (k := 19) okX12 (by decide) tw_1012 (Or.inl rfl) (Or.inl rfl) dX12_scan_46 hu9 ?_
  refine rn_goto (pc := 49) (tgt := 0) dX12_scan_49 (by decide) ?_
  cases h2
  exact rn_sub [0] rfl (k0 _ rfl)
theorem btX12_scan_0 {l : Launch} {G : Gt} {d : Nat} {t0 : Nat} {u : Mem} {y : (Mem) ⊕ (Mem)} {o : Outcome} {u' : Mem} (h : bX12_scan_0 t0 u = some y) (k0 : ∀ s' : Mem, y = .inl s' → Rn l G iX12_scan (d + 1) 0 [(0, rv (some t0))] [] s' o u') (k1 : ∀ r : Mem, y = .inr (r) → Rn l G iX12_scan (d + 1) 52 [(0, rv (some t0))] [] r o u') : Rn l G iX12_scan (d + 1) 0 [(0, rv (some t0))] [] u o u' := by
  unfold bX12_scan_0 at h
  refine rn_aload_n (pc := 0) 0 dX12_scan_0 rfl rfl ?_
  obtain ⟨v1, hv1, h1⟩ := bnd_some h
  refine rn_getI (pc := 1) (k := 19) okX12 (by decide) tw_1012 rfl dX12_scan_1 hv1 ?_
  refine rn_aload_n (pc := 4) 0 dX12_scan_4 rfl rfl ?_
  obtain ⟨v2, hv2, h2⟩ := bnd_some h1
  refine rn_getI (pc := 5) (k := 17) okX12 (by decide) tw_1010 rfl dX12_scan_5 hv2 ?_
  rcases if_elim h2 with ⟨c3, h3⟩ | ⟨c3, h3⟩
  · refine rn_ige_f (pc := 8) 52 dX12_scan_8 (by decide) c3 ?_
    refine rn_aload_n (pc := 11) 0 dX12_scan_11 rfl rfl ?_
    obtain ⟨v4, hv4, h4⟩ := bnd_some h3
    refine rn_getR (pc := 12) (k := 15) okX12 (by decide) tw_1008 rfl dX12_scan_12 hv4 ?_
    refine rn_aload_n (pc := 15) 0 dX12_scan_15 rfl rfl ?_
    obtain ⟨v5, hv5, h5⟩ := bnd_some h4
    refine rn_getI (pc := 16) (k := 19) okX12 (by decide) tw_1012 rfl dX12_scan_16 hv5 ?_
    obtain ⟨v6, hv6, h6⟩ := bnd_some h5
    refine rn_bald (pc := 19) dX12_scan_19 hv6 ?_
    refine rn_bipush (pc := 20) (v := 32) dX12_scan_20 (by decide) ?_
    rcases if_elim h6 with ⟨c7, h7⟩ | ⟨c7, h7⟩
    · refine rn_ieq_t (pc := 22) (tgt := 39) dX12_scan_22 (by decide) c7 ?_
      exact rn_sub [0] rfl (jtX12_scan_0_39 h7 k0 k1)
    · refine rn_ieq_f (pc := 22) 39 dX12_scan_22 (by decide) c7 ?_
      refine rn_aload_n (pc := 25) 0 dX12_scan_25 rfl rfl ?_
      obtain ⟨v10, hv10, h8⟩ := bnd_some h7
      refine rn_getR (pc := 26) (k := 15) okX12 (by decide) tw_1008 rfl dX12_scan_26 hv10 ?_
      refine rn_aload_n (pc := 29) 0 dX12_scan_29 rfl rfl ?_
      obtain ⟨v11, hv11, h9⟩ := bnd_some h8
      refine rn_getI (pc := 30) (k := 19) okX12 (by decide) tw_1012 rfl dX12_scan_30 hv11 ?_
      obtain ⟨v12, hv12, h10⟩ := bnd_some h9
      refine rn_bald (pc := 33) dX12_scan_33 hv12 ?_
      refine rn_bipush (pc := 34) (v := 10) dX12_scan_34 (by decide) ?_
      rcases if_elim h10 with ⟨c13, h11⟩ | ⟨c13, h11⟩
      · refine rn_ine_f (pc := 36) 52 dX12_scan_36 (by decide) c13 ?_
        exact rn_sub [0] rfl (jtX12_scan_0_39 h11 k0 k1)
      · refine rn_ine_t (pc := 36) (tgt := 52) dX12_scan_36 (by decide) c13 ?_
        cases h11
        exact rn_sub [0] rfl (k1 _ rfl)
  · refine rn_ige_t (pc := 8) (tgt := 52) dX12_scan_8 (by decide) c3 ?_
    cases h3
    exact rn_sub [0] rfl (k1 _ rfl)
theorem lX12_scan_0 {l : Launch} {G : Gt} {d : Nat} {t0 : Nat} {N : Nat} {s0 : Mem} {r : Mem} {o : Outcome} {u' : Mem} (h : lp (fun s : Mem => bX12_scan_0 t0 s) N s0 = some r) (k1 : Rn l G iX12_scan (d + 1) 52 [(0, rv (some t0))] [] r o u') : Rn l G iX12_scan (d + 1) 0 [(0, rv (some t0))] [] s0 o u' :=
  lp_run (P := fun s : Mem => Rn l G iX12_scan (d + 1) 0 [(0, rv (some t0))] [] s o u') (E := fun r => Rn l G iX12_scan (d + 1) 52 [(0, rv (some t0))] [] r o u') (fun s y hy k0 kE => btX12_scan_0 hy (fun s' e => k0 s' e) (fun r e => kE r e)) N s0 r h k1
theorem jtX12_scan_242 {l : Launch} {G : Gt} {d : Nat} {t0 : Nat} {w0 : Int32} {w1 : Nat} {u : Mem} {y : Mem} (h : jX12_scan_242 t0 w0 w1 u = some y) : Rn l G iX12_scan (d + 1) 242 [(0, rv (some t0))] [.int w0, rv (some w1)] u (.returned none) y := by
  unfold jX12_scan_242 at h
  obtain ⟨u29, hu29, h1⟩ := bnd_some h
  refine rn_putI (pc := 242) (k := 20) okX12 (by decide) tw_1013 (Or.inl rfl) (Or.inl rfl) dX12_scan_242 hu29 ?_
  refine rn_aload_n (pc := 245) 0 dX12_scan_245 rfl rfl ?_
  refine rn_dup (pc := 246) dX12_scan_246 (rv_cat _) ?_
  obtain ⟨v30, hv30, h2⟩ := bnd_some h1
  refine rn_getI (pc := 247) (k := 19) okX12 (by decide) tw_1012 rfl dX12_scan_247 hv30 ?_
  refine rn_iconst (pc := 250) (v := 1) dX12_scan_250 (by decide) ?_
  refine rn_iadd (pc := 251) dX12_scan_251 ?_
  obtain ⟨u31, hu31, h3⟩ := bnd_some h2
  refine rn_putI (pc := 252) (k := 19) okX12 (by decide) tw_1012 (Or.inl rfl) (Or.inl rfl) dX12_scan_252 hu31 ?_
  cases h3
  exact rn_vret (pc := 255) rfl dX12_scan_255
theorem jtX12_scan_142_192 {l : Launch} {G : Gt} {d : Nat} {t0 : Nat} {u : Mem}  {y : (Mem) ⊕ (Mem)} {o : Outcome} {u' : Mem} (h : jX12_scan_142_192 t0 u = some y) (k0 : ∀ s' : Mem, y = .inl s' → Rn l G iX12_scan (d + 1) 142 [(0, rv (some t0))] [] s' o u') (k1 : ∀ r : Mem, y = .inr (r) → Rn l G iX12_scan (d + 1) 205 [(0, rv (some t0))] [] r o u') : Rn l G iX12_scan (d + 1) 192 [(0, rv (some t0))] [] u o u' := by
  unfold jX12_scan_142_192 at h
  refine rn_aload_n (pc := 192) 0 dX12_scan_192 rfl rfl ?_
  refine rn_dup (pc := 193) dX12_scan_193 (rv_cat _) ?_
  obtain ⟨v46, hv46, h1⟩ := bnd_some h
  refine rn_getI (pc := 194) (k := 19) okX12 (by decide) tw_1012 rfl dX12_scan_194 hv46 ?_
  refine rn_iconst (pc := 197) (v := 1) dX12_scan_197 (by decide) ?_
  refine rn_iadd (pc := 198) dX12_scan_198 ?_
  obtain ⟨u47, hu47, h2⟩ := bnd_some h1
  refine rn_putI (pc := 199) (k := 19) okX12 (by decide) tw_1012 (Or.inl rfl) (Or.inl rfl) dX12_scan_199 hu47 ?_
  refine rn_goto (pc := 202) (tgt := 142) dX12_scan_202 (by decide) ?_
  cases h2
  exact rn_sub [0] rfl (k0 _ rfl)
theorem btX12_scan_142 {l : Launch} {G : Gt} {d : Nat} {t0 : Nat} {u : Mem} {y : (Mem) ⊕ (Mem)} {o : Outcome} {u' : Mem} (h : bX12_scan_142 t0 u = some y) (k0 : ∀ s' : Mem, y = .inl s' → Rn l G iX12_scan (d + 1) 142 [(0, rv (some t0))] [] s' o u') (k1 : ∀ r : Mem, y = .inr (r) → Rn l G iX12_scan (d + 1) 205 [(0, rv (some t0))] [] r o u') : Rn l G iX12_scan (d + 1) 142 [(0, rv (some t0))] [] u o u' := by
  unfold bX12_scan_142 at h
  refine rn_aload_n (pc := 142) 0 dX12_scan_142 rfl rfl ?_
  refine rn_aload_n (pc := 143) 0 dX12_scan_143 rfl rfl ?_
  obtain ⟨v33, hv33, h1⟩ := bnd_some h
  refine rn_getI (pc := 144) (k := 19) okX12 (by decide) tw_1012 rfl dX12_scan_144 hv33 ?_
  obtain ⟨b34, hb34, h2⟩ := bnd_some h1
  obtain ⟨qb34, kb34⟩ := chk_elim hb34
  cases qb34
  obtain ⟨v35, hv35, h3⟩ := bnd_some h2
  refine rn_callV (pc := 147) (n := 1) (As := [.int v33]) (rest := []) (eX12_byteAt (d := d + 0) hv35) (by omega) okX12 kb34 tw_1187 tw_79 tw_1185 tw_1186 tw_35 (by decide +kernel) rfl (Nat.le_of_ble_eq_true rfl) dX12_scan_147 rfl ?_
  obtain ⟨v36, hv36, h4⟩ := bnd_some h3
  refine rn_callS (pc := 150) (n := 1) (As := [.int v35]) (rest := []) (eX12_isDigit (d := d + 0) hv36) (by omega) tw_1193 tw_79 tw_1191 tw_1192 (by decide +kernel) rfl (Nat.le_of_ble_eq_true rfl) dX12_scan_150 rfl ?_
  rcases if_elim h4 with ⟨c37, h5⟩ | ⟨c37, h5⟩
  · refine rn_zeq_t (pc := 153) (tgt := 205) dX12_scan_153 (by decide) c37 ?_
    cases h5
    exact rn_sub [0] rfl (k1 _ rfl)
  · refine rn_zeq_f (pc := 153) 205 dX12_scan_153 (by decide) c37 ?_
    refine rn_aload_n (pc := 156) 0 dX12_scan_156 rfl rfl ?_
    obtain ⟨v38, hv38, h6⟩ := bnd_some h5
    refine rn_getI (pc := 157) (k := 19) okX12 (by decide) tw_1012 rfl dX12_scan_157 hv38 ?_
    refine rn_aload_n (pc := 160) 0 dX12_scan_160 rfl rfl ?_
    obtain ⟨v39, hv39, h7⟩ := bnd_some h6
    refine rn_getI (pc := 161) (k := 18) okX12 (by decide) tw_1011 rfl dX12_scan_161 hv39 ?_
    refine rn_isub (pc := 164) dX12_scan_164 ?_
    refine rn_iconst (pc := 165) (v := 4) dX12_scan_165 (by decide) ?_
    rcases if_elim h7 with ⟨c40, h8⟩ | ⟨c40, h8⟩
    · refine rn_ige_f (pc := 166) 192 dX12_scan_166 (by decide) c40 ?_
      refine rn_aload_n (pc := 169) 0 dX12_scan_169 rfl rfl ?_
      refine rn_bipush (pc := 170) (v := 10) dX12_scan_170 (by decide) ?_
      refine rn_aload_n (pc := 172) 0 dX12_scan_172 rfl rfl ?_
      obtain ⟨v41, hv41, h9⟩ := bnd_some h8
      refine rn_getI (pc := 173) (k := 21) okX12 (by decide) tw_1014 rfl dX12_scan_173 hv41 ?_
      refine rn_imul (pc := 176) dX12_scan_176 ?_
      refine rn_aload_n (pc := 177) 0 dX12_scan_177 rfl rfl ?_
      refine rn_aload_n (pc := 178) 0 dX12_scan_178 rfl rfl ?_
      obtain ⟨v42, hv42, h10⟩ := bnd_some h9
      refine rn_getI (pc := 179) (k := 19) okX12 (by decide) tw_1012 rfl dX12_scan_179 hv42 ?_
      obtain ⟨b43, hb43, h11⟩ := bnd_some h10
      obtain ⟨qb43, kb43⟩ := chk_elim hb43
      cases qb43
      obtain ⟨v44, hv44, h12⟩ := bnd_some h11
      refine rn_callV (pc := 182) (n := 1) (As := [.int v42]) (rest := [.int ((10 : Int32) * v41), rv (some t0)]) (eX12_byteAt (d := d + 0) hv44) (by omega) okX12 kb43 tw_1187 tw_79 tw_1185 tw_1186 tw_35 (by decide +kernel) rfl (Nat.le_of_ble_eq_true rfl) dX12_scan_182 rfl ?_
      refine rn_iadd (pc := 185) dX12_scan_185 ?_
      refine rn_bipush (pc := 186) (v := 48) dX12_scan_186 (by decide) ?_
      refine rn_isub (pc := 188) dX12_scan_188 ?_
      obtain ⟨u45, hu45, h13⟩ := bnd_some h12
      refine rn_putI (pc := 189) (k := 21) okX12 (by decide) tw_1014 (Or.inl rfl) (Or.inl rfl) dX12_scan_189 hu45 ?_
      exact rn_sub [0] rfl (jtX12_scan_142_192 h13 k0 k1)
    · refine rn_ige_t (pc := 166) (tgt := 192) dX12_scan_166 (by decide) c40 ?_
      exact rn_sub [0] rfl (jtX12_scan_142_192 h8 k0 k1)
theorem lX12_scan_142 {l : Launch} {G : Gt} {d : Nat} {t0 : Nat} {N : Nat} {s0 : Mem} {r : Mem} {o : Outcome} {u' : Mem} (h : lp (fun s : Mem => bX12_scan_142 t0 s) N s0 = some r) (k1 : Rn l G iX12_scan (d + 1) 205 [(0, rv (some t0))] [] r o u') : Rn l G iX12_scan (d + 1) 142 [(0, rv (some t0))] [] s0 o u' :=
  lp_run (P := fun s : Mem => Rn l G iX12_scan (d + 1) 142 [(0, rv (some t0))] [] s o u') (E := fun r => Rn l G iX12_scan (d + 1) 205 [(0, rv (some t0))] [] r o u') (fun s y hy k0 kE => btX12_scan_142 hy (fun s' e => k0 s' e) (fun r e => kE r e)) N s0 r h k1
theorem btX12_scan_95 {l : Launch} {G : Gt} {d : Nat} {t0 : Nat} {u : Mem} {y : (Mem) ⊕ (Mem)} {o : Outcome} {u' : Mem} (h : bX12_scan_95 t0 u = some y) (k0 : ∀ s' : Mem, y = .inl s' → Rn l G iX12_scan (d + 1) 95 [(0, rv (some t0))] [] s' o u') (k1 : ∀ r : Mem, y = .inr (r) → Rn l G iX12_scan (d + 1) 122 [(0, rv (some t0))] [] r o u') : Rn l G iX12_scan (d + 1) 95 [(0, rv (some t0))] [] u o u' := by
  unfold bX12_scan_95 at h
  refine rn_aload_n (pc := 95) 0 dX12_scan_95 rfl rfl ?_
  refine rn_aload_n (pc := 96) 0 dX12_scan_96 rfl rfl ?_
  obtain ⟨v54, hv54, h1⟩ := bnd_some h
  refine rn_getI (pc := 97) (k := 19) okX12 (by decide) tw_1012 rfl dX12_scan_97 hv54 ?_
  obtain ⟨b55, hb55, h2⟩ := bnd_some h1
  obtain ⟨qb55, kb55⟩ := chk_elim hb55
  cases qb55
  obtain ⟨v56, hv56, h3⟩ := bnd_some h2
  refine rn_callV (pc := 100) (n := 1) (As := [.int v54]) (rest := []) (eX12_byteAt (d := d + 0) hv56) (by omega) okX12 kb55 tw_1187 tw_79 tw_1185 tw_1186 tw_35 (by decide +kernel) rfl (Nat.le_of_ble_eq_true rfl) dX12_scan_100 rfl ?_
  obtain ⟨v57, hv57, h4⟩ := bnd_some h3
  refine rn_callS (pc := 103) (n := 1) (As := [.int v56]) (rest := []) (eX12_isLetter (d := d + 0) hv57) (by omega) tw_1190 tw_79 tw_1188 tw_1189 (by decide +kernel) rfl (Nat.le_of_ble_eq_true rfl) dX12_scan_103 rfl ?_
  rcases if_elim h4 with ⟨c58, h5⟩ | ⟨c58, h5⟩
  · refine rn_zeq_t (pc := 106) (tgt := 122) dX12_scan_106 (by decide) c58 ?_
    cases h5
    exact rn_sub [0] rfl (k1 _ rfl)
  · refine rn_zeq_f (pc := 106) 122 dX12_scan_106 (by decide) c58 ?_
    refine rn_aload_n (pc := 109) 0 dX12_scan_109 rfl rfl ?_
    refine rn_dup (pc := 110) dX12_scan_110 (rv_cat _) ?_
    obtain ⟨v59, hv59, h6⟩ := bnd_some h5
    refine rn_getI (pc := 111) (k := 19) okX12 (by decide) tw_1012 rfl dX12_scan_111 hv59 ?_
    refine rn_iconst (pc := 114) (v := 1) dX12_scan_114 (by decide) ?_
    refine rn_iadd (pc := 115) dX12_scan_115 ?_
    obtain ⟨u60, hu60, h7⟩ := bnd_some h6
    refine rn_putI (pc := 116) (k := 19) okX12 (by decide) tw_1012 (Or.inl rfl) (Or.inl rfl) dX12_scan_116 hu60 ?_
    refine rn_goto (pc := 119) (tgt := 95) dX12_scan_119 (by decide) ?_
    cases h7
    exact rn_sub [0] rfl (k0 _ rfl)
theorem lX12_scan_95 {l : Launch} {G : Gt} {d : Nat} {t0 : Nat} {N : Nat} {s0 : Mem} {r : Mem} {o : Outcome} {u' : Mem} (h : lp (fun s : Mem => bX12_scan_95 t0 s) N s0 = some r) (k1 : Rn l G iX12_scan (d + 1) 122 [(0, rv (some t0))] [] r o u') : Rn l G iX12_scan (d + 1) 95 [(0, rv (some t0))] [] s0 o u' :=
  lp_run (P := fun s : Mem => Rn l G iX12_scan (d + 1) 95 [(0, rv (some t0))] [] s o u') (E := fun r => Rn l G iX12_scan (d + 1) 122 [(0, rv (some t0))] [] r o u') (fun s y hy k0 kE => btX12_scan_95 hy (fun s' e => k0 s' e) (fun r e => kE r e)) N s0 r h k1
theorem jtX12_scan_52 {l : Launch} {G : Gt} {d : Nat} {t0 : Nat} {u : Mem} {y : Mem} (h : jX12_scan_52 t0 u = some y) : Rn l G iX12_scan (d + 1) 52 [(0, rv (some t0))] [] u (.returned none) y := by
  unfold jX12_scan_52 at h
  refine rn_aload_n (pc := 52) 0 dX12_scan_52 rfl rfl ?_
  refine rn_aload_n (pc := 53) 0 dX12_scan_53 rfl rfl ?_
  obtain ⟨v15, hv15, h1⟩ := bnd_some h
  refine rn_getI (pc := 54) (k := 19) okX12 (by decide) tw_1012 rfl dX12_scan_54 hv15 ?_
  obtain ⟨u16, hu16, h2⟩ := bnd_some h1
  refine rn_putI (pc := 57) (k := 18) okX12 (by decide) tw_1011 (Or.inl rfl) (Or.inl rfl) dX12_scan_57 hu16 ?_
  refine rn_aload_n (pc := 60) 0 dX12_scan_60 rfl rfl ?_
  refine rn_aload_n (pc := 61) 0 dX12_scan_61 rfl rfl ?_
  obtain ⟨v17, hv17, h3⟩ := bnd_some h2
  refine rn_getI (pc := 62) (k := 18) okX12 (by decide) tw_1011 rfl dX12_scan_62 hv17 ?_
  obtain ⟨b18, hb18, h4⟩ := bnd_some h3
  obtain ⟨qb18, kb18⟩ := chk_elim hb18
  cases qb18
  obtain ⟨v19, hv19, h5⟩ := bnd_some h4
  refine rn_callV (pc := 65) (n := 1) (As := [.int v17]) (rest := []) (eX12_byteAt (d := d + 0) hv19) (by omega) okX12 kb18 tw_1187 tw_79 tw_1185 tw_1186 tw_35 (by decide +kernel) rfl (Nat.le_of_ble_eq_true rfl) dX12_scan_65 rfl ?_
  refine rn_istore_n (pc := 68) (lv' := [(1, .int v19), (0, rv (some t0))]) dX12_scan_68 rfl (by decide) rfl ?_
  refine rn_aload_n (pc := 69) 1 dX12_scan_69 rfl rfl ?_
  obtain ⟨v20, hv20, h6⟩ := bnd_some h5
  refine rn_getI (pc := 70) (k := 18) okX12 (by decide) tw_1011 rfl dX12_scan_70 hv20 ?_
  refine rn_aload_n (pc := 73) 1 dX12_scan_73 rfl rfl ?_
  obtain ⟨v21, hv21, h7⟩ := bnd_some h6
  refine rn_getI (pc := 74) (k := 17) okX12 (by decide) tw_1010 rfl dX12_scan_74 hv21 ?_
  rcases if_elim h7 with ⟨c22, h8⟩ | ⟨c22, h8⟩
  · refine rn_ine_f (pc := 77) 88 dX12_scan_77 (by decide) c22 ?_
    refine rn_aload_n (pc := 80) 1 dX12_scan_80 rfl rfl ?_
    refine rn_iconst (pc := 81) (v := 0) dX12_scan_81 (by decide) ?_
    obtain ⟨u23, hu23, h9⟩ := bnd_some h8
    refine rn_putI (pc := 82) (k := 20) okX12 (by decide) tw_1013 (Or.inl rfl) (Or.inl rfl) dX12_scan_82 hu23 ?_
    refine rn_goto (pc := 85) (tgt := 255) dX12_scan_85 (by decide) ?_
    cases h9
    exact rn_vret (pc := 255) rfl dX12_scan_255
  · refine rn_ine_t (pc := 77) (tgt := 88) dX12_scan_77 (by decide) c22 ?_
    refine rn_iload_n (pc := 88) 0 dX12_scan_88 rfl rfl ?_
    obtain ⟨v24, hv24, h10⟩ := bnd_some h8
    refine rn_callS (pc := 89) (n := 1) (As := [.int v19]) (rest := []) (eX12_isLetter (d := d + 0) hv24) (by omega) tw_1190 tw_79 tw_1188 tw_1189 (by decide +kernel) rfl (Nat.le_of_ble_eq_true rfl) dX12_scan_89 rfl ?_
    rcases if_elim h10 with ⟨c25, h11⟩ | ⟨c25, h11⟩
    · refine rn_zeq_t (pc := 92) (tgt := 130) dX12_scan_92 (by decide) c25 ?_
      refine rn_iload_n (pc := 130) 0 dX12_scan_130 rfl rfl ?_
      obtain ⟨v26, hv26, h12⟩ := bnd_some h11
      refine rn_callS (pc := 131) (n := 1) (As := [.int v19]) (rest := []) (eX12_isDigit (d := d + 0) hv26) (by omega) tw_1193 tw_79 tw_1191 tw_1192 (by decide +kernel) rfl (Nat.le_of_ble_eq_true rfl) dX12_scan_131 rfl ?_
      rcases if_elim h12 with ⟨c27, h13⟩ | ⟨c27, h13⟩
      · refine rn_zeq_t (pc := 134) (tgt := 230) dX12_scan_134 (by decide) c27 ?_
        refine rn_aload_n (pc := 230) 1 dX12_scan_230 rfl rfl ?_
        refine rn_iload_n (pc := 231) 0 dX12_scan_231 rfl rfl ?_
        refine rn_bipush (pc := 232) (v := 59) dX12_scan_232 (by decide) ?_
        rcases if_elim h13 with ⟨c28, h14⟩ | ⟨c28, h14⟩
        · refine rn_ine_f (pc := 234) 241 dX12_scan_234 (by decide) c28 ?_
          refine rn_iconst (pc := 237) (v := 3) dX12_scan_237 (by decide) ?_
          refine rn_goto (pc := 238) (tgt := 242) dX12_scan_238 (by decide) ?_
          exact rn_sub [1] rfl (jtX12_scan_242 h14)
        · refine rn_ine_t (pc := 234) (tgt := 241) dX12_scan_234 (by decide) c28 ?_
          refine rn_iconst (pc := 241) (v := 4) dX12_scan_241 (by decide) ?_
          exact rn_sub [1] rfl (jtX12_scan_242 h14)
      · refine rn_zeq_f (pc := 134) 230 dX12_scan_134 (by decide) c27 ?_
        refine rn_aload_n (pc := 137) 1 dX12_scan_137 rfl rfl ?_
        refine rn_iconst (pc := 138) (v := 0) dX12_scan_138 (by decide) ?_
        obtain ⟨u32, hu32, h15⟩ := bnd_some h13
        refine rn_putI (pc := 139) (k := 21) okX12 (by decide) tw_1014 (Or.inl rfl) (Or.inl rfl) dX12_scan_139 hu32 ?_
        obtain ⟨r48, hr48, h16⟩ := bnd_some h15
        refine rn_sub [1] rfl (lX12_scan_142 hr48 ?_)
        refine rn_aload_n (pc := 205) 0 dX12_scan_205 rfl rfl ?_
        refine rn_aload_n (pc := 206) 0 dX12_scan_206 rfl rfl ?_
        obtain ⟨v49, hv49, h17⟩ := bnd_some h16
        refine rn_getI (pc := 207) (k := 19) okX12 (by decide) tw_1012 rfl dX12_scan_207 hv49 ?_
        refine rn_aload_n (pc := 210) 0 dX12_scan_210 rfl rfl ?_
        obtain ⟨v50, hv50, h18⟩ := bnd_some h17
        refine rn_getI (pc := 211) (k := 18) okX12 (by decide) tw_1011 rfl dX12_scan_211 hv50 ?_
        refine rn_isub (pc := 214) dX12_scan_214 ?_
        refine rn_iconst (pc := 215) (v := 4) dX12_scan_215 (by decide) ?_
        rcases if_elim h18 with ⟨c51, h19⟩ | ⟨c51, h19⟩
        · refine rn_ile_f (pc := 216) 223 dX12_scan_216 (by decide) c51 ?_
          refine rn_iconst (pc := 219) (v := 4) dX12_scan_219 (by decide) ?_
          refine rn_goto (pc := 220) (tgt := 224) dX12_scan_220 (by decide) ?_
          obtain ⟨u52, hu52, h20⟩ := bnd_some h19
          refine rn_putI (pc := 224) (k := 20) okX12 (by decide) tw_1013 (Or.inl rfl) (Or.inl rfl) dX12_scan_224 hu52 ?_
          refine rn_goto (pc := 227) (tgt := 255) dX12_scan_227 (by decide) ?_
          cases h20
          exact rn_vret (pc := 255) rfl dX12_scan_255
        · refine rn_ile_t (pc := 216) (tgt := 223) dX12_scan_216 (by decide) c51 ?_
          refine rn_iconst (pc := 223) (v := 2) dX12_scan_223 (by decide) ?_
          obtain ⟨u53, hu53, h21⟩ := bnd_some h19
          refine rn_putI (pc := 224) (k := 20) okX12 (by decide) tw_1013 (Or.inl rfl) (Or.inl rfl) dX12_scan_224 hu53 ?_
          refine rn_goto (pc := 227) (tgt := 255) dX12_scan_227 (by decide) ?_
          cases h21
          exact rn_vret (pc := 255) rfl dX12_scan_255
    · refine rn_zeq_f (pc := 92) 130 dX12_scan_92 (by decide) c25 ?_
      obtain ⟨r61, hr61, h22⟩ := bnd_some h11
      refine rn_sub [1] rfl (lX12_scan_95 hr61 ?_)
      refine rn_aload_n (pc := 122) 0 dX12_scan_122 rfl rfl ?_
      refine rn_iconst (pc := 123) (v := 1) dX12_scan_123 (by decide) ?_
      obtain ⟨u62, hu62, h23⟩ := bnd_some h22
      refine rn_putI (pc := 124) (k := 20) okX12 (by decide) tw_1013 (Or.inl rfl) (Or.inl rfl) dX12_scan_124 hu62 ?_
      refine rn_goto (pc := 127) (tgt := 255) dX12_scan_127 (by decide) ?_
      cases h23
      exact rn_vret (pc := 255) rfl dX12_scan_255
theorem tX12_scan {l : Launch} {G : Gt} {d : Nat} {t0 : Nat} {u : Mem} {y : Mem} (h : fX12_scan t0 u = some y) : Rn l G iX12_scan (d + 1) 0 [(0, rv (some t0))] [] u (.returned none) y := by
  unfold fX12_scan at h
  obtain ⟨r14, hr14, h1⟩ := bnd_some h
  refine rn_sub [0] rfl (lX12_scan_0 hr14 ?_)
  exact rn_sub [0] rfl (jtX12_scan_52 h1)
theorem eX12_scan {l : Launch} {G : Gt} {d : Nat} {t0 : Nat} {u : Mem} {y : Mem} (h : fX12_scan t0 u = some y) : Ex l G iX12_scan (d + 1) [rv (some t0)] u (.returned none) y := Ex.of (by decide +kernel) (by decide) (Nat.le_of_ble_eq_true rfl) rfl (tX12_scan h)
theorem btX12_is_32 {l : Launch} {G : Gt} {d : Nat} {t0 : Nat} {i1 : Option Nat} {u : Mem} {s2 : Int32} {s3 : Int32} {y : (Int32 × Int32) ⊕ (Int32)} {o : Outcome} {u' : Mem} (h : bX12_is_32 t0 i1 u s2 s3 = some y) (k0 : ∀ s' : Int32 × Int32, y = .inl s' → Rn l G iX12_is (d + 4) 32 [(0, rv (some t0)), (1, rv i1), (2, .int s'.1), (3, .int s'.2)] [] u o u') (k1 : ∀ r : Int32, y = .inr (r) → Rn l G iX12_is (d + 4) 75 [(2, .int r)] [] u o u') : Rn l G iX12_is (d + 4) 32 [(0, rv (some t0)), (1, rv i1), (2, .int s2), (3, .int s3)] [] u o u' := by
  unfold bX12_is_32 at h
  refine rn_iload_n (pc := 32) 3 dX12_is_32 rfl rfl ?_
  refine rn_aload_n (pc := 33) 1 dX12_is_33 rfl rfl ?_
  obtain ⟨v7, hv7, h1⟩ := bnd_some h
  refine rn_strLen (pc := 34) (rest := [.int s3]) (by omega) tw_1203 (cat_le8 (Nat.le_of_ble_eq_true rfl)) dX12_is_34 hv7 ?_
  rcases if_elim h1 with ⟨c8, h2⟩ | ⟨c8, h2⟩
  · refine rn_ige_f (pc := 37) 75 dX12_is_37 (by decide) c8 ?_
    refine rn_iload_n (pc := 40) 2 dX12_is_40 rfl rfl ?_
    rcases if_elim h2 with ⟨c9, h3⟩ | ⟨c9, h3⟩
    · refine rn_zeq_t (pc := 41) (tgt := 75) dX12_is_41 (by decide) c9 ?_
      cases h3
      exact rn_sub [2] rfl (k1 _ rfl)
    · refine rn_zeq_f (pc := 41) 75 dX12_is_41 (by decide) c9 ?_
      refine rn_aload_n (pc := 44) 0 dX12_is_44 rfl rfl ?_
      obtain ⟨v10, hv10, h4⟩ := bnd_some h3
      refine rn_getR (pc := 45) (k := 15) okX12 (by decide) tw_1008 rfl dX12_is_45 hv10 ?_
      refine rn_aload_n (pc := 48) 0 dX12_is_48 rfl rfl ?_
      obtain ⟨v11, hv11, h5⟩ := bnd_some h4
      refine rn_getI (pc := 49) (k := 18) okX12 (by decide) tw_1011 rfl dX12_is_49 hv11 ?_
      refine rn_iload_n (pc := 52) 3 dX12_is_52 rfl rfl ?_
      refine rn_iadd (pc := 53) dX12_is_53 ?_
      obtain ⟨v12, hv12, h6⟩ := bnd_some h5
      refine rn_bald (pc := 54) dX12_is_54 hv12 ?_
      refine rn_aload_n (pc := 55) 1 dX12_is_55 rfl rfl ?_
      refine rn_iload_n (pc := 56) 3 dX12_is_56 rfl rfl ?_
      obtain ⟨v13, hv13, h7⟩ := bnd_some h6
      refine rn_strAt (pc := 57) (rest := [.int v12]) (by omega) tw_1204 (cat_le8 (Nat.le_of_ble_eq_true rfl)) dX12_is_57 hv13 ?_
      rcases if_elim h7 with ⟨c14, h8⟩ | ⟨c14, h8⟩
      · refine rn_ine_f (pc := 60) 67 dX12_is_60 (by decide) c14 ?_
        refine rn_iconst (pc := 63) (v := 1) dX12_is_63 (by decide) ?_
        refine rn_goto (pc := 64) (tgt := 68) dX12_is_64 (by decide) ?_
        refine rn_istore_n (pc := 68) (lv' := [(2, .int (1 : Int32)), (0, rv (some t0)), (1, rv i1), (3, .int s3)]) dX12_is_68 rfl (by decide) (by generalize i1 = q; cases q <;> rfl) ?_
        obtain ⟨x15, ex15, h9⟩ := nm_elim h8
        refine rn_iinc (pc := 69) (v := x15) (lv' := [(3, .int x15), (2, .int (1 : Int32)), (0, rv (some t0)), (1, rv i1)]) 3 dX12_is_69 rfl (by rw [ex15]; rfl) (by decide) rfl ?_
        refine rn_goto (pc := 72) (tgt := 32) dX12_is_72 (by decide) ?_
        cases h9
        exact rn_sub [2, 3, 1, 0] rfl (k0 _ rfl)
      · refine rn_ine_t (pc := 60) (tgt := 67) dX12_is_60 (by decide) c14 ?_
        refine rn_iconst (pc := 67) (v := 0) dX12_is_67 (by decide) ?_
        refine rn_istore_n (pc := 68) (lv' := [(2, .int (0 : Int32)), (0, rv (some t0)), (1, rv i1), (3, .int s3)]) dX12_is_68 rfl (by decide) (by generalize i1 = q; cases q <;> rfl) ?_
        obtain ⟨x16, ex16, h10⟩ := nm_elim h8
        refine rn_iinc (pc := 69) (v := x16) (lv' := [(3, .int x16), (2, .int (0 : Int32)), (0, rv (some t0)), (1, rv i1)]) 3 dX12_is_69 rfl (by rw [ex16]; rfl) (by decide) rfl ?_
        refine rn_goto (pc := 72) (tgt := 32) dX12_is_72 (by decide) ?_
        cases h10
        exact rn_sub [2, 3, 1, 0] rfl (k0 _ rfl)
  · refine rn_ige_t (pc := 37) (tgt := 75) dX12_is_37 (by decide) c8 ?_
    cases h2
    exact rn_sub [2] rfl (k1 _ rfl)
theorem lX12_is_32 {l : Launch} {G : Gt} {d : Nat} {t0 : Nat} {i1 : Option Nat} {u : Mem} {N : Nat} {s0 : Int32 × Int32} {r : Int32} {o : Outcome} {u' : Mem} (h : lp (fun s : Int32 × Int32 => bX12_is_32 t0 i1 u s.1 s.2) N s0 = some r) (k1 : Rn l G iX12_is (d + 4) 75 [(2, .int r)] [] u o u') : Rn l G iX12_is (d + 4) 32 [(0, rv (some t0)), (1, rv i1), (2, .int s0.1), (3, .int s0.2)] [] u o u' :=
  lp_run (P := fun s : Int32 × Int32 => Rn l G iX12_is (d + 4) 32 [(0, rv (some t0)), (1, rv i1), (2, .int s.1), (3, .int s.2)] [] u o u') (E := fun r => Rn l G iX12_is (d + 4) 75 [(2, .int r)] [] u o u') (fun s y hy k0 kE => btX12_is_32 hy (fun s' e => k0 s' e) (fun r e => kE r e)) N s0 r h k1
theorem tX12_is {l : Launch} {G : Gt} {d : Nat} {t0 : Nat} {p1 : Option Nat} {u : Mem} {y : Int32} (h : fX12_is t0 p1 u = some y) : Rn l G iX12_is (d + 4) 0 [(0, rv (some t0)), (1, rv p1)] [] u (.returned (some (.int y))) u := by
  unfold fX12_is at h
  refine rn_aload_n (pc := 0) 0 dX12_is_0 rfl rfl ?_
  obtain ⟨v1, hv1, h1⟩ := bnd_some h
  refine rn_getI (pc := 1) (k := 20) okX12 (by decide) tw_1013 rfl dX12_is_1 hv1 ?_
  refine rn_iconst (pc := 4) (v := 1) dX12_is_4 (by decide) ?_
  rcases if_elim h1 with ⟨c2, h2⟩ | ⟨c2, h2⟩
  · refine rn_ine_f (pc := 5) 28 dX12_is_5 (by decide) c2 ?_
    refine rn_aload_n (pc := 8) 0 dX12_is_8 rfl rfl ?_
    obtain ⟨v3, hv3, h3⟩ := bnd_some h2
    refine rn_getI (pc := 9) (k := 19) okX12 (by decide) tw_1012 rfl dX12_is_9 hv3 ?_
    refine rn_aload_n (pc := 12) 0 dX12_is_12 rfl rfl ?_
    obtain ⟨v4, hv4, h4⟩ := bnd_some h3
    refine rn_getI (pc := 13) (k := 18) okX12 (by decide) tw_1011 rfl dX12_is_13 hv4 ?_
    refine rn_isub (pc := 16) dX12_is_16 ?_
    refine rn_aload_n (pc := 17) 1 dX12_is_17 rfl rfl ?_
    obtain ⟨v5, hv5, h5⟩ := bnd_some h4
    refine rn_strLen (pc := 18) (rest := [.int (v3 - v4)]) (by omega) tw_1203 (cat_le8 (Nat.le_of_ble_eq_true rfl)) dX12_is_18 hv5 ?_
    rcases if_elim h5 with ⟨c6, h6⟩ | ⟨c6, h6⟩
    · refine rn_ine_f (pc := 21) 28 dX12_is_21 (by decide) c6 ?_
      refine rn_iconst (pc := 24) (v := 1) dX12_is_24 (by decide) ?_
      refine rn_goto (pc := 25) (tgt := 29) dX12_is_25 (by decide) ?_
      refine rn_istore_n (pc := 29) (lv' := [(2, .int (1 : Int32)), (0, rv (some t0)), (1, rv p1)]) dX12_is_29 rfl (by decide) (by generalize p1 = q; cases q <;> rfl) ?_
      refine rn_iconst (pc := 30) (v := 0) dX12_is_30 (by decide) ?_
      refine rn_istore_n (pc := 31) (lv' := [(3, .int (0 : Int32)), (2, .int (1 : Int32)), (0, rv (some t0)), (1, rv p1)]) dX12_is_31 rfl (by decide) rfl ?_
      obtain ⟨r17, hr17, h7⟩ := bnd_some h6
      refine rn_sub [2, 3, 1, 0] rfl (lX12_is_32 hr17 ?_)
      refine rn_iload_n (pc := 75) 0 dX12_is_75 rfl rfl ?_
      obtain ⟨rfl, hz⟩ := retZ_elim h7
      exact rn_zret (pc := 76) hz rfl dX12_is_76
    · refine rn_ine_t (pc := 21) (tgt := 28) dX12_is_21 (by decide) c6 ?_
      refine rn_iconst (pc := 28) (v := 0) dX12_is_28 (by decide) ?_
      refine rn_istore_n (pc := 29) (lv' := [(2, .int (0 : Int32)), (0, rv (some t0)), (1, rv p1)]) dX12_is_29 rfl (by decide) (by generalize p1 = q; cases q <;> rfl) ?_
      refine rn_iconst (pc := 30) (v := 0) dX12_is_30 (by decide) ?_
      refine rn_istore_n (pc := 31) (lv' := [(3, .int (0 : Int32)), (2, .int (0 : Int32)), (0, rv (some t0)), (1, rv p1)]) dX12_is_31 rfl (by decide) rfl ?_
      obtain ⟨r18, hr18, h8⟩ := bnd_some h6
      refine rn_sub [2, 3, 1, 0] rfl (lX12_is_32 hr18 ?_)
      refine rn_iload_n (pc := 75) 0 dX12_is_75 rfl rfl ?_
      obtain ⟨rfl, hz⟩ := retZ_elim h8
      exact rn_zret (pc := 76) hz rfl dX12_is_76
  · refine rn_ine_t (pc := 5) (tgt := 28) dX12_is_5 (by decide) c2 ?_
    refine rn_iconst (pc := 28) (v := 0) dX12_is_28 (by decide) ?_
    refine rn_istore_n (pc := 29) (lv' := [(2, .int (0 : Int32)), (0, rv (some t0)), (1, rv p1)]) dX12_is_29 rfl (by decide) (by generalize p1 = q; cases q <;> rfl) ?_
    refine rn_iconst (pc := 30) (v := 0) dX12_is_30 (by decide) ?_
    refine rn_istore_n (pc := 31) (lv' := [(3, .int (0 : Int32)), (2, .int (0 : Int32)), (0, rv (some t0)), (1, rv p1)]) dX12_is_31 rfl (by decide) rfl ?_
    obtain ⟨r19, hr19, h9⟩ := bnd_some h2
    refine rn_sub [2, 3, 1, 0] rfl (lX12_is_32 hr19 ?_)
    refine rn_iload_n (pc := 75) 0 dX12_is_75 rfl rfl ?_
    obtain ⟨rfl, hz⟩ := retZ_elim h9
    exact rn_zret (pc := 76) hz rfl dX12_is_76
theorem eX12_is {l : Launch} {G : Gt} {d : Nat} {t0 : Nat} {p1 : Option Nat} {u : Mem} {y : Int32} (h : fX12_is t0 p1 u = some y) : Ex l G iX12_is (d + 4) [rv (some t0), rv p1] u (.returned (some (.int y))) u := Ex.of (by decide +kernel) (by decide) (by cases p1 <;> exact Nat.le_of_ble_eq_true rfl) (by cases p1 <;> rfl) (tX12_is h)
theorem tX12_number {l : Launch} {G : Gt} {d : Nat} {t0 : Nat} {p1 : Int32} {p2 : Int32} {u : Mem} {y : (Int32 ⊕ Nat) × Mem} (h : fX12_number t0 p1 p2 u = some y) : Rn l G iX12_number (d + 2) 0 [(0, rv (some t0)), (1, .int p1), (2, .int p2)] [] u (outI y.1) y.2 := by
  unfold fX12_number at h
  refine rn_aload_n (pc := 0) 0 dX12_number_0 rfl rfl ?_
  obtain ⟨v1, hv1, h1⟩ := bnd_some h
  refine rn_getI (pc := 1) (k := 20) okX12 (by decide) tw_1013 rfl dX12_number_1 hv1 ?_
  refine rn_iconst (pc := 4) (v := 2) dX12_number_4 (by decide) ?_
  rcases if_elim h1 with ⟨c2, h2⟩ | ⟨c2, h2⟩
  · refine rn_ieq_t (pc := 5) (tgt := 14) dX12_number_5 (by decide) c2 ?_
    refine rn_aload_n (pc := 14) 0 dX12_number_14 rfl rfl ?_
    obtain ⟨v3, hv3, h3⟩ := bnd_some h2
    refine rn_getI (pc := 15) (k := 21) okX12 (by decide) tw_1014 rfl dX12_number_15 hv3 ?_
    refine rn_i2l (pc := 18) dX12_number_18 ?_
    refine rn_iload_n (pc := 19) 1 dX12_number_19 rfl rfl ?_
    refine rn_i2l (pc := 20) dX12_number_20 ?_
    refine rn_iload_n (pc := 21) 2 dX12_number_21 rfl rfl ?_
    refine rn_i2l (pc := 22) dX12_number_22 ?_
    obtain ⟨v4, hv4, h4⟩ := bnd_some h3
    refine rn_callS (pc := 23) (n := 3) (As := [.long (Int32.toInt64 v3), .long (Int32.toInt64 p1), .long (Int32.toInt64 p2)]) (rest := []) (eX12_in (d := d + 1) hv4) (by omega) tw_1177 tw_79 tw_1175 tw_1176 (by decide +kernel) rfl (Nat.le_of_ble_eq_true rfl) dX12_number_23 rfl ?_
    rcases if_elim h4 with ⟨c5, h5⟩ | ⟨c5, h5⟩
    · refine rn_zne_f (pc := 26) 35 dX12_number_26 (by decide) c5 ?_
      refine rn_aload_n (pc := 29) 0 dX12_number_29 rfl rfl ?_
      refine rn_iconst (pc := 30) (v := 2) dX12_number_30 (by decide) ?_
      obtain ⟨b6, hb6, h6⟩ := bnd_some h5
      obtain ⟨qb6, kb6⟩ := chk_elim hb6
      cases qb6
      obtain ⟨v7, u8, hv7, h7⟩ := bnd2_some h6
      refine rn_callV (pc := 31) (n := 1) (As := [.int (2 : Int32)]) (rest := []) (eX12_wrong (d := d + 1) hv7) (by omega) okX12 kb6 tw_1207 tw_79 tw_1205 tw_1206 tw_39 (by decide +kernel) rfl (Nat.le_of_ble_eq_true rfl) dX12_number_31 rfl ?_
      obtain ⟨a9, qa9, h8⟩ := bnd_some h7
      subst qa9
      cases h8
      exact rn_athrow (pc := 34) (by decide +kernel) dX12_number_34
    · refine rn_zne_t (pc := 26) (tgt := 35) dX12_number_26 (by decide) c5 ?_
      refine rn_aload_n (pc := 35) 0 dX12_number_35 rfl rfl ?_
      obtain ⟨v10, hv10, h9⟩ := bnd_some h5
      refine rn_getI (pc := 36) (k := 21) okX12 (by decide) tw_1014 rfl dX12_number_36 hv10 ?_
      refine rn_istore_n (pc := 39) (lv' := [(3, .int v10), (0, rv (some t0)), (1, .int p1), (2, .int p2)]) dX12_number_39 rfl (by decide) rfl ?_
      refine rn_aload_n (pc := 40) 1 dX12_number_40 rfl rfl ?_
      obtain ⟨b11, hb11, h10⟩ := bnd_some h9
      obtain ⟨qb11, kb11⟩ := chk_elim hb11
      cases qb11
      obtain ⟨u12, hu12, h11⟩ := bnd_some h10
      refine rn_callV (pc := 41) (n := 0) (As := []) (rest := []) (eX12_scan (d := d + 0) hu12) (by omega) okX12 kb11 tw_1184 tw_79 tw_1182 tw_1183 tw_34 (by decide +kernel) rfl (Nat.le_of_ble_eq_true rfl) dX12_number_41 rfl ?_
      refine rn_iload_n (pc := 44) 0 dX12_number_44 rfl rfl ?_
      cases h11
      exact rn_iret (pc := 45) rfl dX12_number_45
  · refine rn_ieq_f (pc := 5) 14 dX12_number_5 (by decide) c2 ?_
    refine rn_aload_n (pc := 8) 0 dX12_number_8 rfl rfl ?_
    refine rn_iconst (pc := 9) (v := 1) dX12_number_9 (by decide) ?_
    obtain ⟨b13, hb13, h12⟩ := bnd_some h2
    obtain ⟨qb13, kb13⟩ := chk_elim hb13
    cases qb13
    obtain ⟨v14, u15, hv14, h13⟩ := bnd2_some h12
    refine rn_callV (pc := 10) (n := 1) (As := [.int (1 : Int32)]) (rest := []) (eX12_wrong (d := d + 1) hv14) (by omega) okX12 kb13 tw_1207 tw_79 tw_1205 tw_1206 tw_39 (by decide +kernel) rfl (Nat.le_of_ble_eq_true rfl) dX12_number_10 rfl ?_
    obtain ⟨a16, qa16, h14⟩ := bnd_some h13
    subst qa16
    cases h14
    exact rn_athrow (pc := 13) (by decide +kernel) dX12_number_13
theorem eX12_number {l : Launch} {G : Gt} {d : Nat} {t0 : Nat} {p1 : Int32} {p2 : Int32} {u : Mem} {v : Int32} {u' : Mem} (h : fX12_number t0 p1 p2 u = some (.inl v, u')) : Ex l G iX12_number (d + 2) [rv (some t0), .int p1, .int p2] u (.returned (some (.int v))) u' := Ex.of (by decide +kernel) (by decide) (Nat.le_of_ble_eq_true rfl) (lv := [(0, rv (some t0)), (1, .int p1), (2, .int p2)]) rfl (tX12_number h)
theorem eTX12_number {l : Launch} {G : Gt} {d : Nat} {t0 : Nat} {p1 : Int32} {p2 : Int32} {u : Mem} {a : Nat} {u' : Mem} (h : fX12_number t0 p1 p2 u = some (.inr a, u')) : ExT l G iX12_number (d + 2) [rv (some t0), .int p1, .int p2] u a u' := ExT.of (by decide +kernel) (by decide) (Nat.le_of_ble_eq_true rfl) (lv := [(0, rv (some t0)), (1, .int p1), (2, .int p2)]) rfl (tX12_number h)
theorem jtX12_either_35 {l : Launch} {G : Gt} {d : Nat} {t0 : Nat} {w0 : Int32} {u : Mem} {y : (Int32 ⊕ Nat) × Mem} (h : jX12_either_35 t0 w0 u = some y) : Rn l G iX12_either (d + 5) 35 [(0, rv (some t0))] [.int w0] u (outI y.1) y.2 := by
  unfold jX12_either_35 at h
  refine rn_istore_n (pc := 35) (lv' := [(3, .int w0), (0, rv (some t0))]) dX12_either_35 rfl (by decide) rfl ?_
  refine rn_aload_n (pc := 36) 1 dX12_either_36 rfl rfl ?_
  obtain ⟨b14, hb14, h1⟩ := bnd_some h
  obtain ⟨qb14, kb14⟩ := chk_elim hb14
  cases qb14
  obtain ⟨u15, hu15, h2⟩ := bnd_some h1
  refine rn_callV (pc := 37) (n := 0) (As := []) (rest := []) (eX12_scan (d := d + 3) hu15) (by omega) okX12 kb14 tw_1184 tw_79 tw_1182 tw_1183 tw_34 (by decide +kernel) rfl (Nat.le_of_ble_eq_true rfl) dX12_either_37 rfl ?_
  refine rn_iload_n (pc := 40) 0 dX12_either_40 rfl rfl ?_
  cases h2
  exact rn_iret (pc := 41) rfl dX12_either_41
theorem jtX12_either_22 {l : Launch} {G : Gt} {d : Nat} {t0 : Nat} {p1 : Option Nat} {u : Mem} {y : (Int32 ⊕ Nat) × Mem} (h : jX12_either_22 t0 p1 u = some y) : Rn l G iX12_either (d + 5) 22 [(0, rv (some t0)), (1, rv p1)] [] u (outI y.1) y.2 := by
  unfold jX12_either_22 at h
  refine rn_aload_n (pc := 22) 0 dX12_either_22 rfl rfl ?_
  refine rn_aload_n (pc := 23) 1 dX12_either_23 rfl rfl ?_
  obtain ⟨b11, hb11, h1⟩ := bnd_some h
  obtain ⟨qb11, kb11⟩ := chk_elim hb11
  cases qb11
  obtain ⟨v12, hv12, h2⟩ := bnd_some h1
  refine rn_callV (pc := 24) (n := 1) (As := [rv p1]) (rest := []) (eX12_is (d := d + 0) hv12) (by omega) okX12 kb11 tw_1202 tw_79 tw_1200 tw_1201 tw_38 (by decide +kernel) rfl (Nat.le_of_ble_eq_true rfl) dX12_either_24 rfl ?_
  rcases if_elim h2 with ⟨c13, h3⟩ | ⟨c13, h3⟩
  · refine rn_zeq_t (pc := 27) (tgt := 34) dX12_either_27 (by decide) c13 ?_
    refine rn_iconst (pc := 34) (v := 1) dX12_either_34 (by decide) ?_
    exact rn_sub [0] rfl (jtX12_either_35 h3)
  · refine rn_zeq_f (pc := 27) 34 dX12_either_27 (by decide) c13 ?_
    refine rn_iconst (pc := 30) (v := 0) dX12_either_30 (by decide) ?_
    refine rn_goto (pc := 31) (tgt := 35) dX12_either_31 (by decide) ?_
    exact rn_sub [0] rfl (jtX12_either_35 h3)
theorem tX12_either {l : Launch} {G : Gt} {d : Nat} {t0 : Nat} {p1 : Option Nat} {p2 : Option Nat} {u : Mem} {y : (Int32 ⊕ Nat) × Mem} (h : fX12_either t0 p1 p2 u = some y) : Rn l G iX12_either (d + 5) 0 [(0, rv (some t0)), (1, rv p1), (2, rv p2)] [] u (outI y.1) y.2 := by
  unfold fX12_either at h
  refine rn_aload_n (pc := 0) 0 dX12_either_0 rfl rfl ?_
  refine rn_aload_n (pc := 1) 1 dX12_either_1 rfl rfl ?_
  obtain ⟨b1, hb1, h1⟩ := bnd_some h
  obtain ⟨qb1, kb1⟩ := chk_elim hb1
  cases qb1
  obtain ⟨v2, hv2, h2⟩ := bnd_some h1
  refine rn_callV (pc := 2) (n := 1) (As := [rv p1]) (rest := []) (eX12_is (d := d + 0) hv2) (by omega) okX12 kb1 tw_1202 tw_79 tw_1200 tw_1201 tw_38 (by decide +kernel) rfl (Nat.le_of_ble_eq_true rfl) dX12_either_2 rfl ?_
  rcases if_elim h2 with ⟨c3, h3⟩ | ⟨c3, h3⟩
  · refine rn_zne_f (pc := 5) 22 dX12_either_5 (by decide) c3 ?_
    refine rn_aload_n (pc := 8) 0 dX12_either_8 rfl rfl ?_
    refine rn_aload_n (pc := 9) 2 dX12_either_9 rfl rfl ?_
    obtain ⟨b4, hb4, h4⟩ := bnd_some h3
    obtain ⟨qb4, kb4⟩ := chk_elim hb4
    cases qb4
    obtain ⟨v5, hv5, h5⟩ := bnd_some h4
    refine rn_callV (pc := 10) (n := 1) (As := [rv p2]) (rest := []) (eX12_is (d := d + 0) hv5) (by omega) okX12 kb4 tw_1202 tw_79 tw_1200 tw_1201 tw_38 (by decide +kernel) rfl (Nat.le_of_ble_eq_true rfl) dX12_either_10 rfl ?_
    rcases if_elim h5 with ⟨c6, h6⟩ | ⟨c6, h6⟩
    · refine rn_zne_f (pc := 13) 22 dX12_either_13 (by decide) c6 ?_
      refine rn_aload_n (pc := 16) 0 dX12_either_16 rfl rfl ?_
      refine rn_iconst (pc := 17) (v := 1) dX12_either_17 (by decide) ?_
      obtain ⟨b7, hb7, h7⟩ := bnd_some h6
      obtain ⟨qb7, kb7⟩ := chk_elim hb7
      cases qb7
      obtain ⟨v8, u9, hv8, h8⟩ := bnd2_some h7
      refine rn_callV (pc := 18) (n := 1) (As := [.int (1 : Int32)]) (rest := []) (eX12_wrong (d := d + 4) hv8) (by omega) okX12 kb7 tw_1207 tw_79 tw_1205 tw_1206 tw_39 (by decide +kernel) rfl (Nat.le_of_ble_eq_true rfl) dX12_either_18 rfl ?_
      obtain ⟨a10, qa10, h9⟩ := bnd_some h8
      subst qa10
      cases h9
      exact rn_athrow (pc := 21) (by decide +kernel) dX12_either_21
    · refine rn_zne_t (pc := 13) (tgt := 22) dX12_either_13 (by decide) c6 ?_
      exact rn_sub [0, 1] rfl (jtX12_either_22 h6)
  · refine rn_zne_t (pc := 5) (tgt := 22) dX12_either_5 (by decide) c3 ?_
    exact rn_sub [0, 1] rfl (jtX12_either_22 h3)
theorem eX12_either {l : Launch} {G : Gt} {d : Nat} {t0 : Nat} {p1 : Option Nat} {p2 : Option Nat} {u : Mem} {v : Int32} {u' : Mem} (h : fX12_either t0 p1 p2 u = some (.inl v, u')) : Ex l G iX12_either (d + 5) [rv (some t0), rv p1, rv p2] u (.returned (some (.int v))) u' := Ex.of (by decide +kernel) (by decide) (by cases p1 <;> cases p2 <;> exact Nat.le_of_ble_eq_true rfl) (lv := [(0, rv (some t0)), (1, rv p1), (2, rv p2)]) (by cases p1 <;> cases p2 <;> rfl) (tX12_either h)
theorem eTX12_either {l : Launch} {G : Gt} {d : Nat} {t0 : Nat} {p1 : Option Nat} {p2 : Option Nat} {u : Mem} {a : Nat} {u' : Mem} (h : fX12_either t0 p1 p2 u = some (.inr a, u')) : ExT l G iX12_either (d + 5) [rv (some t0), rv p1, rv p2] u a u' := ExT.of (by decide +kernel) (by decide) (by cases p1 <;> cases p2 <;> exact Nat.le_of_ble_eq_true rfl) (lv := [(0, rv (some t0)), (1, rv p1), (2, rv p2)]) (by cases p1 <;> cases p2 <;> rfl) (tX12_either h)
theorem tX12_key {l : Launch} {G : Gt} {d : Nat} {t0 : Nat} {u : Mem} {y : Int32} (h : fX12_key t0 u = some y) : Rn l G iX12_key (d + 5) 0 [(0, rv (some t0))] [] u (.returned (some (.int y))) u := by
  unfold fX12_key at h
  refine rn_aload_n (pc := 0) 0 dX12_key_0 rfl rfl ?_
  refine rn_ldcM (pc := 1) 0 (by decide) rfl rfl dX12_key_1 ?_
  obtain ⟨b1, hb1, h1⟩ := bnd_some h
  obtain ⟨qb1, kb1⟩ := chk_elim hb1
  cases qb1
  obtain ⟨v2, hv2, h2⟩ := bnd_some h1
  refine rn_callV (pc := 3) (n := 1) (As := [rv (some 1000000)]) (rest := []) (eX12_is (d := d + 0) hv2) (by omega) okX12 kb1 tw_1202 tw_79 tw_1200 tw_1201 tw_38 (by decide +kernel) rfl (Nat.le_of_ble_eq_true rfl) dX12_key_3 rfl ?_
  rcases if_elim h2 with ⟨c3, h3⟩ | ⟨c3, h3⟩
  · refine rn_zeq_t (pc := 6) (tgt := 11) dX12_key_6 (by decide) c3 ?_
    refine rn_aload_n (pc := 11) 0 dX12_key_11 rfl rfl ?_
    refine rn_ldcM (pc := 12) 1 (by decide) rfl rfl dX12_key_12 ?_
    obtain ⟨b4, hb4, h4⟩ := bnd_some h3
    obtain ⟨qb4, kb4⟩ := chk_elim hb4
    cases qb4
    obtain ⟨v5, hv5, h5⟩ := bnd_some h4
    refine rn_callV (pc := 14) (n := 1) (As := [rv (some 1000001)]) (rest := []) (eX12_is (d := d + 0) hv5) (by omega) okX12 kb4 tw_1202 tw_79 tw_1200 tw_1201 tw_38 (by decide +kernel) rfl (Nat.le_of_ble_eq_true rfl) dX12_key_14 rfl ?_
    rcases if_elim h5 with ⟨c6, h6⟩ | ⟨c6, h6⟩
    · refine rn_zeq_t (pc := 17) (tgt := 22) dX12_key_17 (by decide) c6 ?_
      refine rn_aload_n (pc := 22) 0 dX12_key_22 rfl rfl ?_
      refine rn_ldcM (pc := 23) 2 (by decide) rfl rfl dX12_key_23 ?_
      obtain ⟨b7, hb7, h7⟩ := bnd_some h6
      obtain ⟨qb7, kb7⟩ := chk_elim hb7
      cases qb7
      obtain ⟨v8, hv8, h8⟩ := bnd_some h7
      refine rn_callV (pc := 25) (n := 1) (As := [rv (some 1000002)]) (rest := []) (eX12_is (d := d + 0) hv8) (by omega) okX12 kb7 tw_1202 tw_79 tw_1200 tw_1201 tw_38 (by decide +kernel) rfl (Nat.le_of_ble_eq_true rfl) dX12_key_25 rfl ?_
      rcases if_elim h8 with ⟨c9, h9⟩ | ⟨c9, h9⟩
      · refine rn_zeq_t (pc := 28) (tgt := 33) dX12_key_28 (by decide) c9 ?_
        refine rn_aload_n (pc := 33) 0 dX12_key_33 rfl rfl ?_
        refine rn_ldcM (pc := 34) 3 (by decide) rfl rfl dX12_key_34 ?_
        obtain ⟨b10, hb10, h10⟩ := bnd_some h9
        obtain ⟨qb10, kb10⟩ := chk_elim hb10
        cases qb10
        obtain ⟨v11, hv11, h11⟩ := bnd_some h10
        refine rn_callV (pc := 36) (n := 1) (As := [rv (some 1000003)]) (rest := []) (eX12_is (d := d + 0) hv11) (by omega) okX12 kb10 tw_1202 tw_79 tw_1200 tw_1201 tw_38 (by decide +kernel) rfl (Nat.le_of_ble_eq_true rfl) dX12_key_36 rfl ?_
        rcases if_elim h11 with ⟨c12, h12⟩ | ⟨c12, h12⟩
        · refine rn_zeq_t (pc := 39) (tgt := 44) dX12_key_39 (by decide) c12 ?_
          refine rn_aload_n (pc := 44) 0 dX12_key_44 rfl rfl ?_
          refine rn_ldcM (pc := 45) 4 (by decide) rfl rfl dX12_key_45 ?_
          obtain ⟨b13, hb13, h13⟩ := bnd_some h12
          obtain ⟨qb13, kb13⟩ := chk_elim hb13
          cases qb13
          obtain ⟨v14, hv14, h14⟩ := bnd_some h13
          refine rn_callV (pc := 47) (n := 1) (As := [rv (some 1000004)]) (rest := []) (eX12_is (d := d + 0) hv14) (by omega) okX12 kb13 tw_1202 tw_79 tw_1200 tw_1201 tw_38 (by decide +kernel) rfl (Nat.le_of_ble_eq_true rfl) dX12_key_47 rfl ?_
          rcases if_elim h14 with ⟨c15, h15⟩ | ⟨c15, h15⟩
          · refine rn_zeq_t (pc := 50) (tgt := 55) dX12_key_50 (by decide) c15 ?_
            refine rn_aload_n (pc := 55) 0 dX12_key_55 rfl rfl ?_
            refine rn_ldcM (pc := 56) 5 (by decide) rfl rfl dX12_key_56 ?_
            obtain ⟨b16, hb16, h16⟩ := bnd_some h15
            obtain ⟨qb16, kb16⟩ := chk_elim hb16
            cases qb16
            obtain ⟨v17, hv17, h17⟩ := bnd_some h16
            refine rn_callV (pc := 58) (n := 1) (As := [rv (some 1000005)]) (rest := []) (eX12_is (d := d + 0) hv17) (by omega) okX12 kb16 tw_1202 tw_79 tw_1200 tw_1201 tw_38 (by decide +kernel) rfl (Nat.le_of_ble_eq_true rfl) dX12_key_58 rfl ?_
            rcases if_elim h17 with ⟨c18, h18⟩ | ⟨c18, h18⟩
            · refine rn_zeq_t (pc := 61) (tgt := 68) dX12_key_61 (by decide) c18 ?_
              refine rn_iconst (pc := 68) (v := -1) dX12_key_68 (by decide) ?_
              cases h18
              exact rn_iret (pc := 69) rfl dX12_key_69
            · refine rn_zeq_f (pc := 61) 68 dX12_key_61 (by decide) c18 ?_
              refine rn_iconst (pc := 64) (v := 5) dX12_key_64 (by decide) ?_
              refine rn_goto (pc := 65) (tgt := 69) dX12_key_65 (by decide) ?_
              cases h18
              exact rn_iret (pc := 69) rfl dX12_key_69
          · refine rn_zeq_f (pc := 50) 55 dX12_key_50 (by decide) c15 ?_
            refine rn_iconst (pc := 53) (v := 4) dX12_key_53 (by decide) ?_
            cases h15
            exact rn_iret (pc := 54) rfl dX12_key_54
        · refine rn_zeq_f (pc := 39) 44 dX12_key_39 (by decide) c12 ?_
          refine rn_iconst (pc := 42) (v := 3) dX12_key_42 (by decide) ?_
          cases h12
          exact rn_iret (pc := 43) rfl dX12_key_43
      · refine rn_zeq_f (pc := 28) 33 dX12_key_28 (by decide) c9 ?_
        refine rn_iconst (pc := 31) (v := 2) dX12_key_31 (by decide) ?_
        cases h9
        exact rn_iret (pc := 32) rfl dX12_key_32
    · refine rn_zeq_f (pc := 17) 22 dX12_key_17 (by decide) c6 ?_
      refine rn_iconst (pc := 20) (v := 1) dX12_key_20 (by decide) ?_
      cases h6
      exact rn_iret (pc := 21) rfl dX12_key_21
  · refine rn_zeq_f (pc := 6) 11 dX12_key_6 (by decide) c3 ?_
    refine rn_iconst (pc := 9) (v := 0) dX12_key_9 (by decide) ?_
    cases h3
    exact rn_iret (pc := 10) rfl dX12_key_10
theorem eX12_key {l : Launch} {G : Gt} {d : Nat} {t0 : Nat} {u : Mem} {y : Int32} (h : fX12_key t0 u = some y) : Ex l G iX12_key (d + 5) [rv (some t0)] u (.returned (some (.int y))) u := Ex.of (by decide +kernel) (by decide) (Nat.le_of_ble_eq_true rfl) rfl (tX12_key h)
theorem btX12_readLine_38 {l : Launch} {G : Gt} {d : Nat} {t0 : Nat} {s2 : Int32} {u : Mem} {y : (Int32 × Mem) ⊕ ((Mem) ⊕ (Nat × Mem))} {o : Outcome} {u' : Mem} (h : bX12_readLine_38 t0 s2 u = some y) (k0 : ∀ s' : Int32 × Mem, y = .inl s' → Rn l G iX12_readLine (d + 6) 38 [(0, rv (some t0)), (2, .int s'.1)] [] s'.2 o u') (k1 : ∀ r : Mem, y = .inr (.inl r) → Rn l G iX12_readLine (d + 6) 64 [] [] r o u') (k2 : ∀ r : Nat × Mem, y = .inr (.inr (r)) → o = .threw r.1 ∧ u' = r.2) : Rn l G iX12_readLine (d + 6) 38 [(0, rv (some t0)), (2, .int s2)] [] u o u' := by
  unfold bX12_readLine_38 at h
  refine rn_iload_n (pc := 38) 1 dX12_readLine_38 rfl rfl ?_
  refine rn_bipush (pc := 39) (v := 11) dX12_readLine_39 (by decide) ?_
  rcases if_elim h with ⟨c2, h1⟩ | ⟨c2, h1⟩
  · refine rn_ige_f (pc := 41) 64 dX12_readLine_41 (by decide) c2 ?_
    refine rn_aload_n (pc := 44) 0 dX12_readLine_44 rfl rfl ?_
    obtain ⟨v3, hv3, h2⟩ := bnd_some h1
    refine rn_getR (pc := 45) (k := 12) okX12 (by decide) tw_1005 rfl dX12_readLine_45 hv3 ?_
    refine rn_iload_n (pc := 48) 1 dX12_readLine_48 rfl rfl ?_
    refine rn_aload_n (pc := 49) 0 dX12_readLine_49 rfl rfl ?_
    refine rn_iconst (pc := 50) (v := 0) dX12_readLine_50 (by decide) ?_
    refine rn_sipush (pc := 51) (v := 1000) dX12_readLine_51 (by decide) ?_
    obtain ⟨b4, hb4, h3⟩ := bnd_some h2
    obtain ⟨qb4, kb4⟩ := chk_elim hb4
    cases qb4
    obtain ⟨r5, u6, hr5, h4⟩ := bnd2_some h3
    rcases r5 with v7 | a8
    · have h5 := sumE_l h4
      refine rn_callV (pc := 54) (n := 2) (As := [.int (0 : Int32), .int (1000 : Int32)]) (rest := [.int s2, rv v3]) (eX12_number (d := d + 3) hr5) (by omega) okX12 kb4 tw_1213 tw_79 tw_1211 tw_1212 tw_41 (by decide +kernel) rfl (cat_le8 (Nat.le_of_ble_eq_true rfl)) dX12_readLine_54 rfl ?_
      obtain ⟨u9, hu9, h6⟩ := bnd_some h5
      refine rn_iast (pc := 57) dX12_readLine_57 hu9 ?_
      obtain ⟨x10, ex10, h7⟩ := nm_elim h6
      refine rn_iinc (pc := 58) (v := x10) (lv' := [(2, .int x10), (0, rv (some t0))]) 1 dX12_readLine_58 rfl (by rw [ex10]; rfl) (by decide) rfl ?_
      refine rn_goto (pc := 61) (tgt := 38) dX12_readLine_61 (by decide) ?_
      cases h7
      exact rn_sub [1, 0] rfl (k0 _ rfl)
    · have h8 := sumE_r h4
      cases h8
      obtain ⟨rfl, rfl⟩ := k2 _ rfl
      exact rn_callVT (pc := 54) (n := 2) (As := [.int (0 : Int32), .int (1000 : Int32)]) (rest := [.int s2, rv v3]) (eTX12_number (d := d + 3) hr5) (by omega) (by decide +kernel) okX12 kb4 tw_1213 tw_79 tw_1211 tw_1212 tw_41 (by decide +kernel) rfl (cat_le8 (Nat.le_of_ble_eq_true rfl)) dX12_readLine_54 rfl
  · refine rn_ige_t (pc := 41) (tgt := 64) dX12_readLine_41 (by decide) c2 ?_
    cases h1
    exact rn_sub [] rfl (k1 _ rfl)
theorem lX12_readLine_38 {l : Launch} {G : Gt} {d : Nat} {t0 : Nat} {N : Nat} {s0 : Int32 × Mem} {r : (Mem) ⊕ (Nat × Mem)} {o : Outcome} {u' : Mem} (h : lp (fun s : Int32 × Mem => bX12_readLine_38 t0 s.1 s.2) N s0 = some r) (k1 : ∀ r' : Mem, r = .inl r' → Rn l G iX12_readLine (d + 6) 64 [] [] r' o u') (k2 : ∀ r' : Nat × Mem, r = .inr (r') → o = .threw r'.1 ∧ u' = r'.2) : Rn l G iX12_readLine (d + 6) 38 [(0, rv (some t0)), (2, .int s0.1)] [] s0.2 o u' :=
  lp_run (P := fun s : Int32 × Mem => Rn l G iX12_readLine (d + 6) 38 [(0, rv (some t0)), (2, .int s.1)] [] s.2 o u') (E := fun r => (∀ r' : Mem, r = .inl r' → Rn l G iX12_readLine (d + 6) 64 [] [] r' o u') ∧ (∀ r' : Nat × Mem, r = .inr (r') → o = .threw r'.1 ∧ u' = r'.2)) (fun s y hy k0 kE => btX12_readLine_38 hy (fun s' e => k0 s' e) (fun r e => (kE _ e).1 r rfl) (fun r e => (kE _ e).2 r rfl)) N s0 r h ⟨k1, k2⟩
theorem btX12_readLine_69 {l : Launch} {G : Gt} {d : Nat} {t0 : Nat} {s2 : Int32} {u : Mem} {y : (Int32 × Mem) ⊕ ((Mem) ⊕ (Nat × Mem))} {o : Outcome} {u' : Mem} (h : bX12_readLine_69 t0 s2 u = some y) (k0 : ∀ s' : Int32 × Mem, y = .inl s' → Rn l G iX12_readLine (d + 6) 69 [(0, rv (some t0)), (2, .int s'.1)] [] s'.2 o u') (k1 : ∀ r : Mem, y = .inr (.inl r) → Rn l G iX12_readLine (d + 6) 95 [] [] r o u') (k2 : ∀ r : Nat × Mem, y = .inr (.inr (r)) → o = .threw r.1 ∧ u' = r.2) : Rn l G iX12_readLine (d + 6) 69 [(0, rv (some t0)), (2, .int s2)] [] u o u' := by
  unfold bX12_readLine_69 at h
  refine rn_iload_n (pc := 69) 1 dX12_readLine_69 rfl rfl ?_
  refine rn_bipush (pc := 70) (v := 11) dX12_readLine_70 (by decide) ?_
  rcases if_elim h with ⟨c15, h1⟩ | ⟨c15, h1⟩
  · refine rn_ige_f (pc := 72) 95 dX12_readLine_72 (by decide) c15 ?_
    refine rn_aload_n (pc := 75) 0 dX12_readLine_75 rfl rfl ?_
    obtain ⟨v16, hv16, h2⟩ := bnd_some h1
    refine rn_getR (pc := 76) (k := 13) okX12 (by decide) tw_1006 rfl dX12_readLine_76 hv16 ?_
    refine rn_iload_n (pc := 79) 1 dX12_readLine_79 rfl rfl ?_
    refine rn_aload_n (pc := 80) 0 dX12_readLine_80 rfl rfl ?_
    refine rn_iconst (pc := 81) (v := 0) dX12_readLine_81 (by decide) ?_
    refine rn_sipush (pc := 82) (v := 1000) dX12_readLine_82 (by decide) ?_
    obtain ⟨b17, hb17, h3⟩ := bnd_some h2
    obtain ⟨qb17, kb17⟩ := chk_elim hb17
    cases qb17
    obtain ⟨r18, u19, hr18, h4⟩ := bnd2_some h3
    rcases r18 with v20 | a21
    · have h5 := sumE_l h4
      refine rn_callV (pc := 85) (n := 2) (As := [.int (0 : Int32), .int (1000 : Int32)]) (rest := [.int s2, rv v16]) (eX12_number (d := d + 3) hr18) (by omega) okX12 kb17 tw_1213 tw_79 tw_1211 tw_1212 tw_41 (by decide +kernel) rfl (cat_le8 (Nat.le_of_ble_eq_true rfl)) dX12_readLine_85 rfl ?_
      obtain ⟨u22, hu22, h6⟩ := bnd_some h5
      refine rn_iast (pc := 88) dX12_readLine_88 hu22 ?_
      obtain ⟨x23, ex23, h7⟩ := nm_elim h6
      refine rn_iinc (pc := 89) (v := x23) (lv' := [(2, .int x23), (0, rv (some t0))]) 1 dX12_readLine_89 rfl (by rw [ex23]; rfl) (by decide) rfl ?_
      refine rn_goto (pc := 92) (tgt := 69) dX12_readLine_92 (by decide) ?_
      cases h7
      exact rn_sub [1, 0] rfl (k0 _ rfl)
    · have h8 := sumE_r h4
      cases h8
      obtain ⟨rfl, rfl⟩ := k2 _ rfl
      exact rn_callVT (pc := 85) (n := 2) (As := [.int (0 : Int32), .int (1000 : Int32)]) (rest := [.int s2, rv v16]) (eTX12_number (d := d + 3) hr18) (by omega) (by decide +kernel) okX12 kb17 tw_1213 tw_79 tw_1211 tw_1212 tw_41 (by decide +kernel) rfl (cat_le8 (Nat.le_of_ble_eq_true rfl)) dX12_readLine_85 rfl
  · refine rn_ige_t (pc := 72) (tgt := 95) dX12_readLine_72 (by decide) c15 ?_
    cases h1
    exact rn_sub [] rfl (k1 _ rfl)
theorem lX12_readLine_69 {l : Launch} {G : Gt} {d : Nat} {t0 : Nat} {N : Nat} {s0 : Int32 × Mem} {r : (Mem) ⊕ (Nat × Mem)} {o : Outcome} {u' : Mem} (h : lp (fun s : Int32 × Mem => bX12_readLine_69 t0 s.1 s.2) N s0 = some r) (k1 : ∀ r' : Mem, r = .inl r' → Rn l G iX12_readLine (d + 6) 95 [] [] r' o u') (k2 : ∀ r' : Nat × Mem, r = .inr (r') → o = .threw r'.1 ∧ u' = r'.2) : Rn l G iX12_readLine (d + 6) 69 [(0, rv (some t0)), (2, .int s0.1)] [] s0.2 o u' :=
  lp_run (P := fun s : Int32 × Mem => Rn l G iX12_readLine (d + 6) 69 [(0, rv (some t0)), (2, .int s.1)] [] s.2 o u') (E := fun r => (∀ r' : Mem, r = .inl r' → Rn l G iX12_readLine (d + 6) 95 [] [] r' o u') ∧ (∀ r' : Nat × Mem, r = .inr (r') → o = .threw r'.1 ∧ u' = r'.2)) (fun s y hy k0 kE => btX12_readLine_69 hy (fun s' e => k0 s' e) (fun r e => (kE _ e).1 r rfl) (fun r e => (kE _ e).2 r rfl)) N s0 r h ⟨k1, k2⟩
theorem tX12_readLine {l : Launch} {G : Gt} {d : Nat} {t0 : Nat} {p1 : Int32} {u : Mem} {y : (Unit ⊕ Nat) × Mem} (h : fX12_readLine t0 p1 u = some y) : Rn l G iX12_readLine (d + 6) 0 [(0, rv (some t0)), (1, .int p1)] [] u (outV y.1) y.2 := by
  unfold fX12_readLine at h
  refine rn_iload_n (pc := 0) 1 dX12_readLine_0 rfl rfl ?_
  rcases if_elim h with ⟨c1, h1⟩ | ⟨c1, h1⟩
  · refine rn_tsw_in (pc := 1) (tgt := 36) (off := 35) 0 dX12_readLine_1 c1 (by decide) (by decide) ?_
    refine rn_iconst (pc := 36) (v := 0) dX12_readLine_36 (by decide) ?_
    refine rn_istore_n (pc := 37) (lv' := [(2, .int (0 : Int32)), (0, rv (some t0)), (1, .int p1)]) dX12_readLine_37 rfl (by decide) rfl ?_
    obtain ⟨r11, hr11, h2⟩ := bnd_some h1
    rcases r11 with r12 | r13
    · refine rn_sub [1, 0] rfl (lX12_readLine_38 hr11 (fun _ hq => ?_) (fun _ hq => by cases hq))
      cases hq
      have h3 := sumE_l h2
      refine rn_goto (pc := 64) (tgt := 164) dX12_readLine_64 (by decide) ?_
      cases h3
      exact rn_vret (pc := 164) rfl dX12_readLine_164
    · refine rn_sub [1, 0] rfl (lX12_readLine_38 hr11 (fun _ hq => by cases hq) (fun _ hq => ?_))
      cases hq
      have h4 := sumE_r h2
      cases h4
      exact ⟨rfl, rfl⟩
  · skip
    rcases if_elim h1 with ⟨c14, h5⟩ | ⟨c14, h5⟩
    · refine rn_tsw_in (pc := 1) (tgt := 67) (off := 66) 1 dX12_readLine_1 c14 (by decide) (by decide) ?_
      refine rn_iconst (pc := 67) (v := 0) dX12_readLine_67 (by decide) ?_
      refine rn_istore_n (pc := 68) (lv' := [(2, .int (0 : Int32)), (0, rv (some t0)), (1, .int p1)]) dX12_readLine_68 rfl (by decide) rfl ?_
      obtain ⟨r24, hr24, h6⟩ := bnd_some h5
      rcases r24 with r25 | r26
      · refine rn_sub [1, 0] rfl (lX12_readLine_69 hr24 (fun _ hq => ?_) (fun _ hq => by cases hq))
        cases hq
        have h7 := sumE_l h6
        refine rn_goto (pc := 95) (tgt := 164) dX12_readLine_95 (by decide) ?_
        cases h7
        exact rn_vret (pc := 164) rfl dX12_readLine_164
      · refine rn_sub [1, 0] rfl (lX12_readLine_69 hr24 (fun _ hq => by cases hq) (fun _ hq => ?_))
        cases hq
        have h8 := sumE_r h6
        cases h8
        exact ⟨rfl, rfl⟩
    · skip
      rcases if_elim h5 with ⟨c27, h9⟩ | ⟨c27, h9⟩
      · refine rn_tsw_in (pc := 1) (tgt := 98) (off := 97) 2 dX12_readLine_1 c27 (by decide) (by decide) ?_
        refine rn_aload_n (pc := 98) 0 dX12_readLine_98 rfl rfl ?_
        refine rn_aload_n (pc := 99) 0 dX12_readLine_99 rfl rfl ?_
        refine rn_ldcM (pc := 100) 6 (by decide) rfl rfl dX12_readLine_100 ?_
        refine rn_ldcM (pc := 102) 7 (by decide) rfl rfl dX12_readLine_102 ?_
        obtain ⟨b28, hb28, h10⟩ := bnd_some h9
        obtain ⟨qb28, kb28⟩ := chk_elim hb28
        cases qb28
        obtain ⟨r29, u30, hr29, h11⟩ := bnd2_some h10
        rcases r29 with v31 | a32
        · have h12 := sumE_l h11
          refine rn_callV (pc := 104) (n := 2) (As := [rv (some 1000006), rv (some 1000007)]) (rest := [rv (some t0)]) (eX12_either (d := d + 0) hr29) (by omega) okX12 kb28 tw_1216 tw_79 tw_1214 tw_1215 tw_42 (by decide +kernel) rfl (cat_le8 (Nat.le_of_ble_eq_true rfl)) dX12_readLine_104 rfl ?_
          obtain ⟨u33, hu33, h13⟩ := bnd_some h12
          refine rn_putI (pc := 107) (k := 5) okX12 (by decide) tw_998 (Or.inl rfl) (Or.inl rfl) dX12_readLine_107 hu33 ?_
          refine rn_goto (pc := 110) (tgt := 164) dX12_readLine_110 (by decide) ?_
          cases h13
          exact rn_vret (pc := 164) rfl dX12_readLine_164
        · have h14 := sumE_r h11
          cases h14
          exact rn_callVT (pc := 104) (n := 2) (As := [rv (some 1000006), rv (some 1000007)]) (rest := [rv (some t0)]) (eTX12_either (d := d + 0) hr29) (by omega) (by decide +kernel) okX12 kb28 tw_1216 tw_79 tw_1214 tw_1215 tw_42 (by decide +kernel) rfl (cat_le8 (Nat.le_of_ble_eq_true rfl)) dX12_readLine_104 rfl
      · skip
        rcases if_elim h9 with ⟨c34, h15⟩ | ⟨c34, h15⟩
        · refine rn_tsw_in (pc := 1) (tgt := 113) (off := 112) 3 dX12_readLine_1 c34 (by decide) (by decide) ?_
          refine rn_aload_n (pc := 113) 0 dX12_readLine_113 rfl rfl ?_
          refine rn_aload_n (pc := 114) 0 dX12_readLine_114 rfl rfl ?_
          refine rn_ldcM (pc := 115) 8 (by decide) rfl rfl dX12_readLine_115 ?_
          refine rn_ldcM (pc := 117) 9 (by decide) rfl rfl dX12_readLine_117 ?_
          obtain ⟨b35, hb35, h16⟩ := bnd_some h15
          obtain ⟨qb35, kb35⟩ := chk_elim hb35
          cases qb35
          obtain ⟨r36, u37, hr36, h17⟩ := bnd2_some h16
          rcases r36 with v38 | a39
          · have h18 := sumE_l h17
            refine rn_callV (pc := 119) (n := 2) (As := [rv (some 1000008), rv (some 1000009)]) (rest := [rv (some t0)]) (eX12_either (d := d + 0) hr36) (by omega) okX12 kb35 tw_1216 tw_79 tw_1214 tw_1215 tw_42 (by decide +kernel) rfl (cat_le8 (Nat.le_of_ble_eq_true rfl)) dX12_readLine_119 rfl ?_
            obtain ⟨u40, hu40, h19⟩ := bnd_some h18
            refine rn_putI (pc := 122) (k := 6) okX12 (by decide) tw_999 (Or.inl rfl) (Or.inl rfl) dX12_readLine_122 hu40 ?_
            refine rn_goto (pc := 125) (tgt := 164) dX12_readLine_125 (by decide) ?_
            cases h19
            exact rn_vret (pc := 164) rfl dX12_readLine_164
          · have h20 := sumE_r h17
            cases h20
            exact rn_callVT (pc := 119) (n := 2) (As := [rv (some 1000008), rv (some 1000009)]) (rest := [rv (some t0)]) (eTX12_either (d := d + 0) hr36) (by omega) (by decide +kernel) okX12 kb35 tw_1216 tw_79 tw_1214 tw_1215 tw_42 (by decide +kernel) rfl (cat_le8 (Nat.le_of_ble_eq_true rfl)) dX12_readLine_119 rfl
        · skip
          rcases if_elim h15 with ⟨c41, h21⟩ | ⟨c41, h21⟩
          · refine rn_tsw_in (pc := 1) (tgt := 128) (off := 127) 4 dX12_readLine_1 c41 (by decide) (by decide) ?_
            refine rn_aload_n (pc := 128) 0 dX12_readLine_128 rfl rfl ?_
            refine rn_aload_n (pc := 129) 0 dX12_readLine_129 rfl rfl ?_
            refine rn_iconst (pc := 130) (v := 1) dX12_readLine_130 (by decide) ?_
            refine rn_bipush (pc := 131) (v := 30) dX12_readLine_131 (by decide) ?_
            obtain ⟨b42, hb42, h22⟩ := bnd_some h21
            obtain ⟨qb42, kb42⟩ := chk_elim hb42
            cases qb42
            obtain ⟨r43, u44, hr43, h23⟩ := bnd2_some h22
            rcases r43 with v45 | a46
            · have h24 := sumE_l h23
              refine rn_callV (pc := 133) (n := 2) (As := [.int (1 : Int32), .int (30 : Int32)]) (rest := [rv (some t0)]) (eX12_number (d := d + 3) hr43) (by omega) okX12 kb42 tw_1213 tw_79 tw_1211 tw_1212 tw_41 (by decide +kernel) rfl (cat_le8 (Nat.le_of_ble_eq_true rfl)) dX12_readLine_133 rfl ?_
              obtain ⟨u47, hu47, h25⟩ := bnd_some h24
              refine rn_putI (pc := 136) (k := 7) okX12 (by decide) tw_1000 (Or.inl rfl) (Or.inl rfl) dX12_readLine_136 hu47 ?_
              refine rn_aload_n (pc := 139) 0 dX12_readLine_139 rfl rfl ?_
              refine rn_aload_n (pc := 140) 0 dX12_readLine_140 rfl rfl ?_
              refine rn_iconst (pc := 141) (v := 1) dX12_readLine_141 (by decide) ?_
              refine rn_bipush (pc := 142) (v := 99) dX12_readLine_142 (by decide) ?_
              obtain ⟨b48, hb48, h26⟩ := bnd_some h25
              obtain ⟨qb48, kb48⟩ := chk_elim hb48
              cases qb48
              obtain ⟨r49, u50, hr49, h27⟩ := bnd2_some h26
              rcases r49 with v51 | a52
              · have h28 := sumE_l h27
                refine rn_callV (pc := 144) (n := 2) (As := [.int (1 : Int32), .int (99 : Int32)]) (rest := [rv (some t0)]) (eX12_number (d := d + 3) hr49) (by omega) okX12 kb48 tw_1213 tw_79 tw_1211 tw_1212 tw_41 (by decide +kernel) rfl (cat_le8 (Nat.le_of_ble_eq_true rfl)) dX12_readLine_144 rfl ?_
                obtain ⟨u53, hu53, h29⟩ := bnd_some h28
                refine rn_putI (pc := 147) (k := 8) okX12 (by decide) tw_1001 (Or.inl rfl) (Or.inl rfl) dX12_readLine_147 hu53 ?_
                refine rn_goto (pc := 150) (tgt := 164) dX12_readLine_150 (by decide) ?_
                cases h29
                exact rn_vret (pc := 164) rfl dX12_readLine_164
              · have h30 := sumE_r h27
                cases h30
                exact rn_callVT (pc := 144) (n := 2) (As := [.int (1 : Int32), .int (99 : Int32)]) (rest := [rv (some t0)]) (eTX12_number (d := d + 3) hr49) (by omega) (by decide +kernel) okX12 kb48 tw_1213 tw_79 tw_1211 tw_1212 tw_41 (by decide +kernel) rfl (cat_le8 (Nat.le_of_ble_eq_true rfl)) dX12_readLine_144 rfl
            · have h31 := sumE_r h23
              cases h31
              exact rn_callVT (pc := 133) (n := 2) (As := [.int (1 : Int32), .int (30 : Int32)]) (rest := [rv (some t0)]) (eTX12_number (d := d + 3) hr43) (by omega) (by decide +kernel) okX12 kb42 tw_1213 tw_79 tw_1211 tw_1212 tw_41 (by decide +kernel) rfl (cat_le8 (Nat.le_of_ble_eq_true rfl)) dX12_readLine_133 rfl
          · skip
            refine rn_tsw_out (pc := 1) (tgt := 153) dX12_readLine_1 (sw_out (n := 4) (lt_s (lt_s (lt_s (lt_s (lt_s (lt_0) c1) c14) c27) c34) c41)) (by decide) ?_
            refine rn_aload_n (pc := 153) 0 dX12_readLine_153 rfl rfl ?_
            refine rn_aload_n (pc := 154) 0 dX12_readLine_154 rfl rfl ?_
            refine rn_iconst (pc := 155) (v := 1) dX12_readLine_155 (by decide) ?_
            refine rn_bipush (pc := 156) (v := 99) dX12_readLine_156 (by decide) ?_
            obtain ⟨b54, hb54, h32⟩ := bnd_some h21
            obtain ⟨qb54, kb54⟩ := chk_elim hb54
            cases qb54
            obtain ⟨r55, u56, hr55, h33⟩ := bnd2_some h32
            rcases r55 with v57 | a58
            · have h34 := sumE_l h33
              refine rn_callV (pc := 158) (n := 2) (As := [.int (1 : Int32), .int (99 : Int32)]) (rest := [rv (some t0)]) (eX12_number (d := d + 3) hr55) (by omega) okX12 kb54 tw_1213 tw_79 tw_1211 tw_1212 tw_41 (by decide +kernel) rfl (cat_le8 (Nat.le_of_ble_eq_true rfl)) dX12_readLine_158 rfl ?_
              obtain ⟨u59, hu59, h35⟩ := bnd_some h34
              refine rn_putI (pc := 161) (k := 9) okX12 (by decide) tw_1002 (Or.inl rfl) (Or.inl rfl) dX12_readLine_161 hu59 ?_
              cases h35
              exact rn_vret (pc := 164) rfl dX12_readLine_164
            · have h36 := sumE_r h33
              cases h36
              exact rn_callVT (pc := 158) (n := 2) (As := [.int (1 : Int32), .int (99 : Int32)]) (rest := [rv (some t0)]) (eTX12_number (d := d + 3) hr55) (by omega) (by decide +kernel) okX12 kb54 tw_1213 tw_79 tw_1211 tw_1212 tw_41 (by decide +kernel) rfl (cat_le8 (Nat.le_of_ble_eq_true rfl)) dX12_readLine_158 rfl
theorem eX12_readLine {l : Launch} {G : Gt} {d : Nat} {t0 : Nat} {p1 : Int32} {u : Mem} {v : Unit} {u' : Mem} (h : fX12_readLine t0 p1 u = some (.inl v, u')) : Ex l G iX12_readLine (d + 6) [rv (some t0), .int p1] u (.returned none) u' := Ex.of (by decide +kernel) (by decide) (Nat.le_of_ble_eq_true rfl) (lv := [(0, rv (some t0)), (1, .int p1)]) rfl (tX12_readLine h)
theorem eTX12_readLine {l : Launch} {G : Gt} {d : Nat} {t0 : Nat} {p1 : Int32} {u : Mem} {a : Nat} {u' : Mem} (h : fX12_readLine t0 p1 u = some (.inr a, u')) : ExT l G iX12_readLine (d + 6) [rv (some t0), .int p1] u a u' := ExT.of (by decide +kernel) (by decide) (Nat.le_of_ble_eq_true rfl) (lv := [(0, rv (some t0)), (1, .int p1)]) rfl (tX12_readLine h)
theorem btX12_readRules_2 {l : Launch} {G : Gt} {d : Nat} {t0 : Nat} {s1 : Int32} {u : Mem} {y : (Int32 × Mem) ⊕ (Mem)} {o : Outcome} {u' : Mem} (h : bX12_readRules_2 t0 s1 u = some y) (k0 : ∀ s' : Int32 × Mem, y = .inl s' → Rn l G iX12_readRules (d + 7) 2 [(0, rv (some t0)), (1, .int s'.1)] [] s'.2 o u') (k1 : ∀ r : Mem, y = .inr (r) → Rn l G iX12_readRules (d + 7) 38 [(0, rv (some t0))] [] r o u') : Rn l G iX12_readRules (d + 7) 2 [(0, rv (some t0)), (1, .int s1)] [] u o u' := by
  unfold bX12_readRules_2 at h
  refine rn_iload_n (pc := 2) 1 dX12_readRules_2 rfl rfl ?_
  refine rn_bipush (pc := 3) (v := 11) dX12_readRules_3 (by decide) ?_
  rcases if_elim h with ⟨c1, h1⟩ | ⟨c1, h1⟩
  · refine rn_ige_f (pc := 5) 38 dX12_readRules_5 (by decide) c1 ?_
    refine rn_aload_n (pc := 8) 0 dX12_readRules_8 rfl rfl ?_
    obtain ⟨v2, hv2, h2⟩ := bnd_some h1
    refine rn_getR (pc := 9) (k := 12) okX12 (by decide) tw_1005 rfl dX12_readRules_9 hv2 ?_
    refine rn_iload_n (pc := 12) 1 dX12_readRules_12 rfl rfl ?_
    refine rn_bipush (pc := 13) (v := 10) dX12_readRules_13 (by decide) ?_
    refine rn_iload_n (pc := 15) 1 dX12_readRules_15 rfl rfl ?_
    refine rn_isub (pc := 16) dX12_readRules_16 ?_
    refine rn_bipush (pc := 17) (v := 10) dX12_readRules_17 (by decide) ?_
    refine rn_iload_n (pc := 19) 1 dX12_readRules_19 rfl rfl ?_
    refine rn_isub (pc := 20) dX12_readRules_20 ?_
    refine rn_imul (pc := 21) dX12_readRules_21 ?_
    obtain ⟨u3, hu3, h3⟩ := bnd_some h2
    refine rn_iast (pc := 22) dX12_readRules_22 hu3 ?_
    refine rn_aload_n (pc := 23) 0 dX12_readRules_23 rfl rfl ?_
    obtain ⟨v4, hv4, h4⟩ := bnd_some h3
    refine rn_getR (pc := 24) (k := 13) okX12 (by decide) tw_1006 rfl dX12_readRules_24 hv4 ?_
    refine rn_iload_n (pc := 27) 1 dX12_readRules_27 rfl rfl ?_
    refine rn_iload_n (pc := 28) 1 dX12_readRules_28 rfl rfl ?_
    refine rn_iload_n (pc := 29) 1 dX12_readRules_29 rfl rfl ?_
    refine rn_imul (pc := 30) dX12_readRules_30 ?_
    obtain ⟨u5, hu5, h5⟩ := bnd_some h4
    refine rn_iast (pc := 31) dX12_readRules_31 hu5 ?_
    obtain ⟨x6, ex6, h6⟩ := nm_elim h5
    refine rn_iinc (pc := 32) (v := x6) (lv' := [(1, .int x6), (0, rv (some t0))]) 1 dX12_readRules_32 rfl (by rw [ex6]; rfl) (by decide) rfl ?_
    refine rn_goto (pc := 35) (tgt := 2) dX12_readRules_35 (by decide) ?_
    cases h6
    exact rn_sub [1, 0] rfl (k0 _ rfl)
  · refine rn_ige_t (pc := 5) (tgt := 38) dX12_readRules_5 (by decide) c1 ?_
    cases h1
    exact rn_sub [0] rfl (k1 _ rfl)
theorem lX12_readRules_2 {l : Launch} {G : Gt} {d : Nat} {t0 : Nat} {N : Nat} {s0 : Int32 × Mem} {r : Mem} {o : Outcome} {u' : Mem} (h : lp (fun s : Int32 × Mem => bX12_readRules_2 t0 s.1 s.2) N s0 = some r) (k1 : Rn l G iX12_readRules (d + 7) 38 [(0, rv (some t0))] [] r o u') : Rn l G iX12_readRules (d + 7) 2 [(0, rv (some t0)), (1, .int s0.1)] [] s0.2 o u' :=
  lp_run (P := fun s : Int32 × Mem => Rn l G iX12_readRules (d + 7) 2 [(0, rv (some t0)), (1, .int s.1)] [] s.2 o u') (E := fun r => Rn l G iX12_readRules (d + 7) 38 [(0, rv (some t0))] [] r o u') (fun s y hy k0 kE => btX12_readRules_2 hy (fun s' e => k0 s' e) (fun r e => kE r e)) N s0 r h k1
theorem btX12_readRules_65 {l : Launch} {G : Gt} {d : Nat} {t0 : Nat} {s1 : Int32} {u : Mem} {y : (Int32 × Mem) ⊕ (Mem)} {o : Outcome} {u' : Mem} (h : bX12_readRules_65 t0 s1 u = some y) (k0 : ∀ s' : Int32 × Mem, y = .inl s' → Rn l G iX12_readRules (d + 7) 65 [(0, rv (some t0)), (1, .int s'.1)] [] s'.2 o u') (k1 : ∀ r : Mem, y = .inr (r) → Rn l G iX12_readRules (d + 7) 87 [(0, rv (some t0))] [] r o u') : Rn l G iX12_readRules (d + 7) 65 [(0, rv (some t0)), (1, .int s1)] [] u o u' := by
  unfold bX12_readRules_65 at h
  refine rn_iload_n (pc := 65) 1 dX12_readRules_65 rfl rfl ?_
  refine rn_aload_n (pc := 66) 0 dX12_readRules_66 rfl rfl ?_
  obtain ⟨v13, hv13, h1⟩ := bnd_some h
  refine rn_getR (pc := 67) (k := 24) okX12 (by decide) tw_1017 rfl dX12_readRules_67 hv13 ?_
  obtain ⟨v14, hv14, h2⟩ := bnd_some h1
  refine rn_alen (pc := 70) 22 (by decide) dX12_readRules_70 hv14 ?_
  rcases if_elim h2 with ⟨c15, h3⟩ | ⟨c15, h3⟩
  · refine rn_ige_f (pc := 71) 87 dX12_readRules_71 (by decide) c15 ?_
    refine rn_aload_n (pc := 74) 0 dX12_readRules_74 rfl rfl ?_
    obtain ⟨v16, hv16, h4⟩ := bnd_some h3
    refine rn_getR (pc := 75) (k := 24) okX12 (by decide) tw_1017 rfl dX12_readRules_75 hv16 ?_
    refine rn_iload_n (pc := 78) 1 dX12_readRules_78 rfl rfl ?_
    refine rn_iconst (pc := 79) (v := 0) dX12_readRules_79 (by decide) ?_
    obtain ⟨u17, hu17, h5⟩ := bnd_some h4
    refine rn_zast (pc := 80) dX12_readRules_80 hu17 ?_
    obtain ⟨x18, ex18, h6⟩ := nm_elim h5
    refine rn_iinc (pc := 81) (v := x18) (lv' := [(1, .int x18), (0, rv (some t0))]) 1 dX12_readRules_81 rfl (by rw [ex18]; rfl) (by decide) rfl ?_
    refine rn_goto (pc := 84) (tgt := 65) dX12_readRules_84 (by decide) ?_
    cases h6
    exact rn_sub [1, 0] rfl (k0 _ rfl)
  · refine rn_ige_t (pc := 71) (tgt := 87) dX12_readRules_71 (by decide) c15 ?_
    cases h3
    exact rn_sub [0] rfl (k1 _ rfl)
theorem lX12_readRules_65 {l : Launch} {G : Gt} {d : Nat} {t0 : Nat} {N : Nat} {s0 : Int32 × Mem} {r : Mem} {o : Outcome} {u' : Mem} (h : lp (fun s : Int32 × Mem => bX12_readRules_65 t0 s.1 s.2) N s0 = some r) (k1 : Rn l G iX12_readRules (d + 7) 87 [(0, rv (some t0))] [] r o u') : Rn l G iX12_readRules (d + 7) 65 [(0, rv (some t0)), (1, .int s0.1)] [] s0.2 o u' :=
  lp_run (P := fun s : Int32 × Mem => Rn l G iX12_readRules (d + 7) 65 [(0, rv (some t0)), (1, .int s.1)] [] s.2 o u') (E := fun r => Rn l G iX12_readRules (d + 7) 87 [(0, rv (some t0))] [] r o u') (fun s y hy k0 kE => btX12_readRules_65 hy (fun s' e => k0 s' e) (fun r e => kE r e)) N s0 r h k1
theorem btX12_readRules_89 {l : Launch} {G : Gt} {d : Nat} {t0 : Nat} {s1 : Int32} {u : Mem} {y : (Int32 × Mem) ⊕ ((Int32 × Mem) ⊕ ((Mem) ⊕ ((Mem) ⊕ ((Mem) ⊕ (Nat × Mem)))))} {o : Outcome} {u' : Mem} (h : bX12_readRules_89 t0 s1 u = some y) (k0 : ∀ s' : Int32 × Mem, y = .inl s' → Rn l G iX12_readRules (d + 7) 89 [(0, rv (some t0)), (1, .int s'.1)] [] s'.2 o u') (k1 : ∀ r : Int32 × Mem, y = .inr (.inl r) → Rn l G iX12_readRules (d + 7) 167 [(1, .int r.1)] [] r.2 o u') (k2 : ∀ r : Mem, y = .inr (.inr (.inl r)) → Rn l G iX12_readRules (d + 7) 106 [(0, rv (some t0))] [] r o u') (k3 : ∀ r : Mem, y = .inr (.inr (.inr (.inl r))) → Rn l G iX12_readRules (d + 7) 121 [(0, rv (some t0))] [] r o u') (k4 : ∀ r : Mem, y = .inr (.inr (.inr (.inr (.inl r)))) → Rn l G iX12_readRules (d + 7) 151 [(0, rv (some t0))] [] r o u') (k5 : ∀ r : Nat × Mem, y = .inr (.inr (.inr (.inr (.inr (r))))) → o = .threw r.1 ∧ u' = r.2) : Rn l G iX12_readRules (d + 7) 89 [(0, rv (some t0)), (1, .int s1)] [] u o u' := by
  unfold bX12_readRules_89 at h
  refine rn_aload_n (pc := 89) 0 dX12_readRules_89 rfl rfl ?_
  obtain ⟨v20, hv20, h1⟩ := bnd_some h
  refine rn_getI (pc := 90) (k := 20) okX12 (by decide) tw_1013 rfl dX12_readRules_90 hv20 ?_
  rcases if_elim h1 with ⟨c21, h2⟩ | ⟨c21, h2⟩
  · refine rn_zeq_t (pc := 93) (tgt := 167) dX12_readRules_93 (by decide) c21 ?_
    cases h2
    exact rn_sub [1] rfl (k1 _ rfl)
  · refine rn_zeq_f (pc := 93) 167 dX12_readRules_93 (by decide) c21 ?_
    refine rn_aload_n (pc := 96) 0 dX12_readRules_96 rfl rfl ?_
    obtain ⟨b22, hb22, h3⟩ := bnd_some h2
    obtain ⟨qb22, kb22⟩ := chk_elim hb22
    cases qb22
    obtain ⟨v23, hv23, h4⟩ := bnd_some h3
    refine rn_callV (pc := 97) (n := 0) (As := []) (rest := []) (eX12_key (d := d + 1) hv23) (by omega) okX12 kb22 tw_1199 tw_79 tw_1197 tw_1198 tw_37 (by decide +kernel) rfl (Nat.le_of_ble_eq_true rfl) dX12_readRules_97 rfl ?_
    refine rn_istore_n (pc := 100) (lv' := [(2, .int v23), (0, rv (some t0)), (1, .int s1)]) dX12_readRules_100 rfl (by decide) rfl ?_
    refine rn_iload_n (pc := 101) 0 dX12_readRules_101 rfl rfl ?_
    refine rn_iconst (pc := 102) (v := -1) dX12_readRules_102 (by decide) ?_
    rcases if_elim h4 with ⟨c24, h5⟩ | ⟨c24, h5⟩
    · refine rn_ine_f (pc := 103) 112 dX12_readRules_103 (by decide) c24 ?_
      cases h5
      exact rn_sub [1] rfl (k2 _ rfl)
    · refine rn_ine_t (pc := 103) (tgt := 112) dX12_readRules_103 (by decide) c24 ?_
      refine rn_aload_n (pc := 112) 1 dX12_readRules_112 rfl rfl ?_
      obtain ⟨v25, hv25, h6⟩ := bnd_some h5
      refine rn_getR (pc := 113) (k := 24) okX12 (by decide) tw_1017 rfl dX12_readRules_113 hv25 ?_
      refine rn_iload_n (pc := 116) 0 dX12_readRules_116 rfl rfl ?_
      obtain ⟨v26, hv26, h7⟩ := bnd_some h6
      refine rn_zald (pc := 117) dX12_readRules_117 hv26 ?_
      rcases if_elim h7 with ⟨c27, h8⟩ | ⟨c27, h8⟩
      · refine rn_zeq_t (pc := 118) (tgt := 127) dX12_readRules_118 (by decide) c27 ?_
        refine rn_aload_n (pc := 127) 1 dX12_readRules_127 rfl rfl ?_
        obtain ⟨v28, hv28, h9⟩ := bnd_some h8
        refine rn_getR (pc := 128) (k := 24) okX12 (by decide) tw_1017 rfl dX12_readRules_128 hv28 ?_
        refine rn_iload_n (pc := 131) 0 dX12_readRules_131 rfl rfl ?_
        refine rn_iconst (pc := 132) (v := 1) dX12_readRules_132 (by decide) ?_
        obtain ⟨u29, hu29, h10⟩ := bnd_some h9
        refine rn_zast (pc := 133) dX12_readRules_133 hu29 ?_
        refine rn_aload_n (pc := 134) 1 dX12_readRules_134 rfl rfl ?_
        obtain ⟨b30, hb30, h11⟩ := bnd_some h10
        obtain ⟨qb30, kb30⟩ := chk_elim hb30
        cases qb30
        obtain ⟨u31, hu31, h12⟩ := bnd_some h11
        refine rn_callV (pc := 135) (n := 0) (As := []) (rest := []) (eX12_scan (d := d + 5) hu31) (by omega) okX12 kb30 tw_1184 tw_79 tw_1182 tw_1183 tw_34 (by decide +kernel) rfl (Nat.le_of_ble_eq_true rfl) dX12_readRules_135 rfl ?_
        refine rn_aload_n (pc := 138) 1 dX12_readRules_138 rfl rfl ?_
        refine rn_iload_n (pc := 139) 0 dX12_readRules_139 rfl rfl ?_
        obtain ⟨b32, hb32, h13⟩ := bnd_some h12
        obtain ⟨qb32, kb32⟩ := chk_elim hb32
        cases qb32
        obtain ⟨r33, u34, hr33, h14⟩ := bnd2_some h13
        rcases r33 with v35 | a36
        · have h15 := sumE_l h14
          refine rn_callV (pc := 140) (n := 1) (As := [.int v23]) (rest := []) (eX12_readLine (d := d + 0) hr33) (by omega) okX12 kb32 tw_1210 tw_79 tw_1208 tw_1209 tw_40 (by decide +kernel) rfl (cat_le8 (Nat.le_of_ble_eq_true rfl)) dX12_readRules_140 rfl ?_
          refine rn_aload_n (pc := 143) 1 dX12_readRules_143 rfl rfl ?_
          obtain ⟨v37, hv37, h16⟩ := bnd_some h15
          refine rn_getI (pc := 144) (k := 20) okX12 (by decide) tw_1013 rfl dX12_readRules_144 hv37 ?_
          refine rn_iconst (pc := 147) (v := 3) dX12_readRules_147 (by decide) ?_
          rcases if_elim h16 with ⟨c38, h17⟩ | ⟨c38, h17⟩
          · refine rn_ieq_t (pc := 148) (tgt := 157) dX12_readRules_148 (by decide) c38 ?_
            refine rn_aload_n (pc := 157) 1 dX12_readRules_157 rfl rfl ?_
            obtain ⟨b39, hb39, h18⟩ := bnd_some h17
            obtain ⟨qb39, kb39⟩ := chk_elim hb39
            cases qb39
            obtain ⟨u40, hu40, h19⟩ := bnd_some h18
            refine rn_callV (pc := 158) (n := 0) (As := []) (rest := []) (eX12_scan (d := d + 5) hu40) (by omega) okX12 kb39 tw_1184 tw_79 tw_1182 tw_1183 tw_34 (by decide +kernel) rfl (Nat.le_of_ble_eq_true rfl) dX12_readRules_158 rfl ?_
            obtain ⟨x41, ex41, h20⟩ := nm_elim h19
            refine rn_iinc (pc := 161) (v := x41) (lv' := [(1, .int x41), (2, .int v23), (0, rv (some t0))]) 2 dX12_readRules_161 rfl (by rw [ex41]; rfl) (by decide) rfl ?_
            refine rn_goto (pc := 164) (tgt := 89) dX12_readRules_164 (by decide) ?_
            cases h20
            exact rn_sub [2, 0] rfl (k0 _ rfl)
          · refine rn_ieq_f (pc := 148) 157 dX12_readRules_148 (by decide) c38 ?_
            cases h17
            exact rn_sub [1] rfl (k4 _ rfl)
        · have h21 := sumE_r h14
          cases h21
          obtain ⟨rfl, rfl⟩ := k5 _ rfl
          exact rn_callVT (pc := 140) (n := 1) (As := [.int v23]) (rest := []) (eTX12_readLine (d := d + 0) hr33) (by omega) (by decide +kernel) okX12 kb32 tw_1210 tw_79 tw_1208 tw_1209 tw_40 (by decide +kernel) rfl (cat_le8 (Nat.le_of_ble_eq_true rfl)) dX12_readRules_140 rfl
      · refine rn_zeq_f (pc := 118) 127 dX12_readRules_118 (by decide) c27 ?_
        cases h8
        exact rn_sub [1] rfl (k3 _ rfl)
theorem lX12_readRules_89 {l : Launch} {G : Gt} {d : Nat} {t0 : Nat} {N : Nat} {s0 : Int32 × Mem} {r : (Int32 × Mem) ⊕ ((Mem) ⊕ ((Mem) ⊕ ((Mem) ⊕ (Nat × Mem))))} {o : Outcome} {u' : Mem} (h : lp (fun s : Int32 × Mem => bX12_readRules_89 t0 s.1 s.2) N s0 = some r) (k1 : ∀ r' : Int32 × Mem, r = .inl r' → Rn l G iX12_readRules (d + 7) 167 [(1, .int r'.1)] [] r'.2 o u') (k2 : ∀ r' : Mem, r = .inr (.inl r') → Rn l G iX12_readRules (d + 7) 106 [(0, rv (some t0))] [] r' o u') (k3 : ∀ r' : Mem, r = .inr (.inr (.inl r')) → Rn l G iX12_readRules (d + 7) 121 [(0, rv (some t0))] [] r' o u') (k4 : ∀ r' : Mem, r = .inr (.inr (.inr (.inl r'))) → Rn l G iX12_readRules (d + 7) 151 [(0, rv (some t0))] [] r' o u') (k5 : ∀ r' : Nat × Mem, r = .inr (.inr (.inr (.inr (r')))) → o = .threw r'.1 ∧ u' = r'.2) : Rn l G iX12_readRules (d + 7) 89 [(0, rv (some t0)), (1, .int s0.1)] [] s0.2 o u' :=
  lp_run (P := fun s : Int32 × Mem => Rn l G iX12_readRules (d + 7) 89 [(0, rv (some t0)), (1, .int s.1)] [] s.2 o u') (E := fun r => (∀ r' : Int32 × Mem, r = .inl r' → Rn l G iX12_readRules (d + 7) 167 [(1, .int r'.1)] [] r'.2 o u') ∧ (∀ r' : Mem, r = .inr (.inl r') → Rn l G iX12_readRules (d + 7) 106 [(0, rv (some t0))] [] r' o u') ∧ (∀ r' : Mem, r = .inr (.inr (.inl r')) → Rn l G iX12_readRules (d + 7) 121 [(0, rv (some t0))] [] r' o u') ∧ (∀ r' : Mem, r = .inr (.inr (.inr (.inl r'))) → Rn l G iX12_readRules (d + 7) 151 [(0, rv (some t0))] [] r' o u') ∧ (∀ r' : Nat × Mem, r = .inr (.inr (.inr (.inr (r')))) → o = .threw r'.1 ∧ u' = r'.2)) (fun s y hy k0 kE => btX12_readRules_89 hy (fun s' e => k0 s' e) (fun r e => (kE _ e).1 r rfl) (fun r e => (kE _ e).2.1 r rfl) (fun r e => (kE _ e).2.2.1 r rfl) (fun r e => (kE _ e).2.2.2.1 r rfl) (fun r e => (kE _ e).2.2.2.2 r rfl)) N s0 r h ⟨k1, k2, k3, k4, k5⟩
theorem tX12_readRules {l : Launch} {G : Gt} {d : Nat} {t0 : Nat} {u : Mem} {y : (Int32 ⊕ Nat) × Mem} (h : fX12_readRules t0 u = some y) : Rn l G iX12_readRules (d + 7) 0 [(0, rv (some t0))] [] u (outI y.1) y.2 := by
  unfold fX12_readRules at h
  refine rn_iconst (pc := 0) (v := 0) dX12_readRules_0 (by decide) ?_
  refine rn_istore_n (pc := 1) (lv' := [(1, .int (0 : Int32)), (0, rv (some t0))]) dX12_readRules_1 rfl (by decide) rfl ?_
  obtain ⟨r7, hr7, h1⟩ := bnd_some h
  refine rn_sub [1, 0] rfl (lX12_readRules_2 hr7 ?_)
  refine rn_aload_n (pc := 38) 0 dX12_readRules_38 rfl rfl ?_
  refine rn_iconst (pc := 39) (v := 0) dX12_readRules_39 (by decide) ?_
  obtain ⟨u8, hu8, h2⟩ := bnd_some h1
  refine rn_putI (pc := 40) (k := 5) okX12 (by decide) tw_998 (Or.inl rfl) (Or.inl rfl) dX12_readRules_40 hu8 ?_
  refine rn_aload_n (pc := 43) 0 dX12_readRules_43 rfl rfl ?_
  refine rn_iconst (pc := 44) (v := 0) dX12_readRules_44 (by decide) ?_
  obtain ⟨u9, hu9, h3⟩ := bnd_some h2
  refine rn_putI (pc := 45) (k := 6) okX12 (by decide) tw_999 (Or.inl rfl) (Or.inl rfl) dX12_readRules_45 hu9 ?_
  refine rn_aload_n (pc := 48) 0 dX12_readRules_48 rfl rfl ?_
  refine rn_iconst (pc := 49) (v := -1) dX12_readRules_49 (by decide) ?_
  obtain ⟨u10, hu10, h4⟩ := bnd_some h3
  refine rn_putI (pc := 50) (k := 7) okX12 (by decide) tw_1000 (Or.inl rfl) (Or.inl rfl) dX12_readRules_50 hu10 ?_
  refine rn_aload_n (pc := 53) 0 dX12_readRules_53 rfl rfl ?_
  refine rn_iconst (pc := 54) (v := -1) dX12_readRules_54 (by decide) ?_
  obtain ⟨u11, hu11, h5⟩ := bnd_some h4
  refine rn_putI (pc := 55) (k := 8) okX12 (by decide) tw_1001 (Or.inl rfl) (Or.inl rfl) dX12_readRules_55 hu11 ?_
  refine rn_aload_n (pc := 58) 0 dX12_readRules_58 rfl rfl ?_
  refine rn_iconst (pc := 59) (v := 1) dX12_readRules_59 (by decide) ?_
  obtain ⟨u12, hu12, h6⟩ := bnd_some h5
  refine rn_putI (pc := 60) (k := 9) okX12 (by decide) tw_1002 (Or.inl rfl) (Or.inl rfl) dX12_readRules_60 hu12 ?_
  refine rn_iconst (pc := 63) (v := 0) dX12_readRules_63 (by decide) ?_
  refine rn_istore_n (pc := 64) (lv' := [(1, .int (0 : Int32)), (0, rv (some t0))]) dX12_readRules_64 rfl (by decide) rfl ?_
  obtain ⟨r19, hr19, h7⟩ := bnd_some h6
  refine rn_sub [1, 0] rfl (lX12_readRules_65 hr19 ?_)
  refine rn_iconst (pc := 87) (v := 0) dX12_readRules_87 (by decide) ?_
  refine rn_istore_n (pc := 88) (lv' := [(1, .int (0 : Int32)), (0, rv (some t0))]) dX12_readRules_88 rfl (by decide) rfl ?_
  obtain ⟨r42, hr42, h8⟩ := bnd_some h7
  rcases r42 with r43 | r44
  · refine rn_sub [1, 0] rfl (lX12_readRules_89 hr42 (fun _ hq => ?_) (fun _ hq => by cases hq) (fun _ hq => by cases hq) (fun _ hq => by cases hq) (fun _ hq => by cases hq))
    cases hq
    have h9 := sumE_l h8
    refine rn_iload_n (pc := 167) 0 dX12_readRules_167 rfl rfl ?_
    cases h9
    exact rn_iret (pc := 168) rfl dX12_readRules_168
  · have h10 := sumE_r h8
    rcases r44 with r45 | r46
    · refine rn_sub [1, 0] rfl (lX12_readRules_89 hr42 (fun _ hq => by cases hq) (fun _ hq => ?_) (fun _ hq => by cases hq) (fun _ hq => by cases hq) (fun _ hq => by cases hq))
      cases hq
      have h11 := sumE_l h10
      refine rn_aload_n (pc := 106) 0 dX12_readRules_106 rfl rfl ?_
      refine rn_iconst (pc := 107) (v := 1) dX12_readRules_107 (by decide) ?_
      obtain ⟨b47, hb47, h12⟩ := bnd_some h11
      obtain ⟨qb47, kb47⟩ := chk_elim hb47
      cases qb47
      obtain ⟨v48, u49, hv48, h13⟩ := bnd2_some h12
      refine rn_callV (pc := 108) (n := 1) (As := [.int (1 : Int32)]) (rest := []) (eX12_wrong (d := d + 6) hv48) (by omega) okX12 kb47 tw_1207 tw_79 tw_1205 tw_1206 tw_39 (by decide +kernel) rfl (Nat.le_of_ble_eq_true rfl) dX12_readRules_108 rfl ?_
      obtain ⟨a50, qa50, h14⟩ := bnd_some h13
      subst qa50
      cases h14
      exact rn_athrow (pc := 111) (by decide +kernel) dX12_readRules_111
    · have h15 := sumE_r h10
      rcases r46 with r51 | r52
      · refine rn_sub [1, 0] rfl (lX12_readRules_89 hr42 (fun _ hq => by cases hq) (fun _ hq => by cases hq) (fun _ hq => ?_) (fun _ hq => by cases hq) (fun _ hq => by cases hq))
        cases hq
        have h16 := sumE_l h15
        refine rn_aload_n (pc := 121) 0 dX12_readRules_121 rfl rfl ?_
        refine rn_iconst (pc := 122) (v := 3) dX12_readRules_122 (by decide) ?_
        obtain ⟨b53, hb53, h17⟩ := bnd_some h16
        obtain ⟨qb53, kb53⟩ := chk_elim hb53
        cases qb53
        obtain ⟨v54, u55, hv54, h18⟩ := bnd2_some h17
        refine rn_callV (pc := 123) (n := 1) (As := [.int (3 : Int32)]) (rest := []) (eX12_wrong (d := d + 6) hv54) (by omega) okX12 kb53 tw_1207 tw_79 tw_1205 tw_1206 tw_39 (by decide +kernel) rfl (Nat.le_of_ble_eq_true rfl) dX12_readRules_123 rfl ?_
        obtain ⟨a56, qa56, h19⟩ := bnd_some h18
        subst qa56
        cases h19
        exact rn_athrow (pc := 126) (by decide +kernel) dX12_readRules_126
      · have h20 := sumE_r h15
        rcases r52 with r57 | r58
        · refine rn_sub [1, 0] rfl (lX12_readRules_89 hr42 (fun _ hq => by cases hq) (fun _ hq => by cases hq) (fun _ hq => by cases hq) (fun _ hq => ?_) (fun _ hq => by cases hq))
          cases hq
          have h21 := sumE_l h20
          refine rn_aload_n (pc := 151) 0 dX12_readRules_151 rfl rfl ?_
          refine rn_iconst (pc := 152) (v := 1) dX12_readRules_152 (by decide) ?_
          obtain ⟨b59, hb59, h22⟩ := bnd_some h21
          obtain ⟨qb59, kb59⟩ := chk_elim hb59
          cases qb59
          obtain ⟨v60, u61, hv60, h23⟩ := bnd2_some h22
          refine rn_callV (pc := 153) (n := 1) (As := [.int (1 : Int32)]) (rest := []) (eX12_wrong (d := d + 6) hv60) (by omega) okX12 kb59 tw_1207 tw_79 tw_1205 tw_1206 tw_39 (by decide +kernel) rfl (Nat.le_of_ble_eq_true rfl) dX12_readRules_153 rfl ?_
          obtain ⟨a62, qa62, h24⟩ := bnd_some h23
          subst qa62
          cases h24
          exact rn_athrow (pc := 156) (by decide +kernel) dX12_readRules_156
        · refine rn_sub [1, 0] rfl (lX12_readRules_89 hr42 (fun _ hq => by cases hq) (fun _ hq => by cases hq) (fun _ hq => by cases hq) (fun _ hq => by cases hq) (fun _ hq => ?_))
          cases hq
          have h25 := sumE_r h20
          cases h25
          exact ⟨rfl, rfl⟩
theorem eX12_readRules {l : Launch} {G : Gt} {d : Nat} {t0 : Nat} {u : Mem} {v : Int32} {u' : Mem} (h : fX12_readRules t0 u = some (.inl v, u')) : Ex l G iX12_readRules (d + 7) [rv (some t0)] u (.returned (some (.int v))) u' := Ex.of (by decide +kernel) (by decide) (Nat.le_of_ble_eq_true rfl) (lv := [(0, rv (some t0))]) rfl (tX12_readRules h)
theorem eTX12_readRules {l : Launch} {G : Gt} {d : Nat} {t0 : Nat} {u : Mem} {a : Nat} {u' : Mem} (h : fX12_readRules t0 u = some (.inr a, u')) : ExT l G iX12_readRules (d + 7) [rv (some t0)] u a u' := ExT.of (by decide +kernel) (by decide) (Nat.le_of_ble_eq_true rfl) (lv := [(0, rv (some t0))]) rfl (tX12_readRules h)
theorem btX12_lay_3 {l : Launch} {G : Gt} {d : Nat} {t0 : Nat} {i1 : Int32} {s2 : Int32} {u : Mem} {y : (Int32 × Mem) ⊕ (Mem)} {o : Outcome} {u' : Mem} (h : bX12_lay_3 t0 i1 s2 u = some y) (k0 : ∀ s' : Int32 × Mem, y = .inl s' → Rn l G iX12_lay d 3 [(0, rv (some t0)), (1, .int i1), (2, .int s'.1)] [] s'.2 o u') (k1 : ∀ r : Mem, y = .inr (r) → Rn l G iX12_lay d 36 [] [] r o u') : Rn l G iX12_lay d 3 [(0, rv (some t0)), (1, .int i1), (2, .int s2)] [] u o u' := by
  unfold bX12_lay_3 at h
  refine rn_iload_n (pc := 3) 2 dX12_lay_3 rfl rfl ?_
  rcases if_elim h with ⟨c1, h1⟩ | ⟨c1, h1⟩
  · refine rn_zlt_t (pc := 4) (tgt := 36) dX12_lay_4 (by decide) c1 ?_
    cases h1
    exact rn_sub [] rfl (k1 _ rfl)
  · refine rn_zlt_f (pc := 4) 36 dX12_lay_4 (by decide) c1 ?_
    refine rn_aload_n (pc := 7) 0 dX12_lay_7 rfl rfl ?_
    obtain ⟨v2, hv2, h2⟩ := bnd_some h1
    refine rn_getR (pc := 8) (k := 15) okX12 (by decide) tw_1008 rfl dX12_lay_8 hv2 ?_
    refine rn_aload_n (pc := 11) 0 dX12_lay_11 rfl rfl ?_
    obtain ⟨v3, hv3, h3⟩ := bnd_some h2
    refine rn_getI (pc := 12) (k := 16) okX12 (by decide) tw_1009 rfl dX12_lay_12 hv3 ?_
    refine rn_iload_n (pc := 15) 1 dX12_lay_15 rfl rfl ?_
    refine rn_iload_n (pc := 16) 2 dX12_lay_16 rfl rfl ?_
    refine rn_ishr (pc := 17) dX12_lay_17 ?_
    refine rn_i2b (pc := 18) dX12_lay_18 ?_
    obtain ⟨u4, hu4, h4⟩ := bnd_some h3
    refine rn_bast (pc := 19) dX12_lay_19 hu4 ?_
    refine rn_aload_n (pc := 20) 0 dX12_lay_20 rfl rfl ?_
    refine rn_dup (pc := 21) dX12_lay_21 (rv_cat _) ?_
    obtain ⟨v5, hv5, h5⟩ := bnd_some h4
    refine rn_getI (pc := 22) (k := 16) okX12 (by decide) tw_1009 rfl dX12_lay_22 hv5 ?_
    refine rn_iconst (pc := 25) (v := 1) dX12_lay_25 (by decide) ?_
    refine rn_iadd (pc := 26) dX12_lay_26 ?_
    obtain ⟨u6, hu6, h6⟩ := bnd_some h5
    refine rn_putI (pc := 27) (k := 16) okX12 (by decide) tw_1009 (Or.inl rfl) (Or.inl rfl) dX12_lay_27 hu6 ?_
    obtain ⟨x7, ex7, h7⟩ := nm_elim h6
    refine rn_iinc (pc := 30) (v := x7) (lv' := [(2, .int x7), (0, rv (some t0)), (1, .int i1)]) 2 dX12_lay_30 rfl (by rw [ex7]; rfl) (by decide) rfl ?_
    refine rn_goto (pc := 33) (tgt := 3) dX12_lay_33 (by decide) ?_
    cases h7
    exact rn_sub [1, 2, 0] rfl (k0 _ rfl)
theorem lX12_lay_3 {l : Launch} {G : Gt} {d : Nat} {t0 : Nat} {i1 : Int32} {N : Nat} {s0 : Int32 × Mem} {r : Mem} {o : Outcome} {u' : Mem} (h : lp (fun s : Int32 × Mem => bX12_lay_3 t0 i1 s.1 s.2) N s0 = some r) (k1 : Rn l G iX12_lay d 36 [] [] r o u') : Rn l G iX12_lay d 3 [(0, rv (some t0)), (1, .int i1), (2, .int s0.1)] [] s0.2 o u' :=
  lp_run (P := fun s : Int32 × Mem => Rn l G iX12_lay d 3 [(0, rv (some t0)), (1, .int i1), (2, .int s.1)] [] s.2 o u') (E := fun r => Rn l G iX12_lay d 36 [] [] r o u') (fun s y hy k0 kE => btX12_lay_3 hy (fun s' e => k0 s' e) (fun r e => kE r e)) N s0 r h k1
theorem tX12_lay {l : Launch} {G : Gt} {d : Nat} {t0 : Nat} {p1 : Int32} {u : Mem} {y : Mem} (h : fX12_lay t0 p1 u = some y) : Rn l G iX12_lay d 0 [(0, rv (some t0)), (1, .int p1)] [] u (.returned none) y := by
  unfold fX12_lay at h
  refine rn_bipush (pc := 0) (v := 24) dX12_lay_0 (by decide) ?_
  refine rn_istore_n (pc := 2) (lv' := [(2, .int (24 : Int32)), (0, rv (some t0)), (1, .int p1)]) dX12_lay_2 rfl (by decide) rfl ?_
  obtain ⟨r8, hr8, h1⟩ := bnd_some h
  refine rn_sub [1, 2, 0] rfl (lX12_lay_3 hr8 ?_)
  cases h1
  exact rn_vret (pc := 36) rfl dX12_lay_36
theorem eX12_lay {l : Launch} {G : Gt} {d : Nat} {t0 : Nat} {p1 : Int32} {u : Mem} {y : Mem} (h : fX12_lay t0 p1 u = some y) : Ex l G iX12_lay d [rv (some t0), .int p1] u (.returned none) y := Ex.of (by decide +kernel) (by decide) (Nat.le_of_ble_eq_true rfl) rfl (tX12_lay h)
theorem tX12_feed {l : Launch} {G : Gt} {d : Nat} {t0 : Nat} {p1 : Int32} {p2 : Int32} {p3 : Int32} {p4 : Int32} {p5 : Int32} {u : Mem} {y : Int32 × Mem} (h : fX12_feed t0 p1 p2 p3 p4 p5 u = some y) : Rn l G iX12_feed (d + 1) 0 [(0, rv (some t0)), (1, .int p1), (2, .int p2), (3, .int p3), (4, .int p4), (5, .int p5)] [] u (.returned (some (.int y.1))) y.2 := by
  unfold fX12_feed at h
  refine rn_aload_n (pc := 0) 0 dX12_feed_0 rfl rfl ?_
  obtain ⟨v1, hv1, h1⟩ := bnd_some h
  refine rn_getI (pc := 1) (k := 16) okX12 (by decide) tw_1009 rfl dX12_feed_1 hv1 ?_
  refine rn_bipush (pc := 4) (v := 20) dX12_feed_4 (by decide) ?_
  refine rn_iadd (pc := 6) dX12_feed_6 ?_
  refine rn_sipush (pc := 7) (v := 500) dX12_feed_7 (by decide) ?_
  rcases if_elim h1 with ⟨c2, h2⟩ | ⟨c2, h2⟩
  · refine rn_ile_f (pc := 10) 16 dX12_feed_10 (by decide) c2 ?_
    refine rn_bipush (pc := 13) (v := -3) dX12_feed_13 (by decide) ?_
    cases h2
    exact rn_iret (pc := 15) rfl dX12_feed_15
  · refine rn_ile_t (pc := 10) (tgt := 16) dX12_feed_10 (by decide) c2 ?_
    refine rn_aload_n (pc := 16) 0 dX12_feed_16 rfl rfl ?_
    refine rn_iload_n (pc := 17) 1 dX12_feed_17 rfl rfl ?_
    obtain ⟨b3, hb3, h3⟩ := bnd_some h2
    obtain ⟨qb3, kb3⟩ := chk_elim hb3
    cases qb3
    obtain ⟨u4, hu4, h4⟩ := bnd_some h3
    refine rn_callV (pc := 18) (n := 1) (As := [.int p1]) (rest := []) (eX12_lay (d := d + 0) hu4) (by omega) okX12 kb3 tw_1170 tw_79 tw_1168 tw_1169 tw_33 (by decide +kernel) rfl (Nat.le_of_ble_eq_true rfl) dX12_feed_18 rfl ?_
    refine rn_aload_n (pc := 21) 0 dX12_feed_21 rfl rfl ?_
    refine rn_iload_n (pc := 22) 2 dX12_feed_22 rfl rfl ?_
    obtain ⟨b5, hb5, h5⟩ := bnd_some h4
    obtain ⟨qb5, kb5⟩ := chk_elim hb5
    cases qb5
    obtain ⟨u6, hu6, h6⟩ := bnd_some h5
    refine rn_callV (pc := 23) (n := 1) (As := [.int p2]) (rest := []) (eX12_lay (d := d + 0) hu6) (by omega) okX12 kb5 tw_1170 tw_79 tw_1168 tw_1169 tw_33 (by decide +kernel) rfl (Nat.le_of_ble_eq_true rfl) dX12_feed_23 rfl ?_
    refine rn_aload_n (pc := 26) 0 dX12_feed_26 rfl rfl ?_
    refine rn_iload_n (pc := 27) 3 dX12_feed_27 rfl rfl ?_
    obtain ⟨b7, hb7, h7⟩ := bnd_some h6
    obtain ⟨qb7, kb7⟩ := chk_elim hb7
    cases qb7
    obtain ⟨u8, hu8, h8⟩ := bnd_some h7
    refine rn_callV (pc := 28) (n := 1) (As := [.int p3]) (rest := []) (eX12_lay (d := d + 0) hu8) (by omega) okX12 kb7 tw_1170 tw_79 tw_1168 tw_1169 tw_33 (by decide +kernel) rfl (Nat.le_of_ble_eq_true rfl) dX12_feed_28 rfl ?_
    refine rn_aload_n (pc := 31) 0 dX12_feed_31 rfl rfl ?_
    refine rn_iload (pc := 32) 4 dX12_feed_32 rfl ?_
    obtain ⟨b9, hb9, h9⟩ := bnd_some h8
    obtain ⟨qb9, kb9⟩ := chk_elim hb9
    cases qb9
    obtain ⟨u10, hu10, h10⟩ := bnd_some h9
    refine rn_callV (pc := 34) (n := 1) (As := [.int p4]) (rest := []) (eX12_lay (d := d + 0) hu10) (by omega) okX12 kb9 tw_1170 tw_79 tw_1168 tw_1169 tw_33 (by decide +kernel) rfl (Nat.le_of_ble_eq_true rfl) dX12_feed_34 rfl ?_
    refine rn_aload_n (pc := 37) 0 dX12_feed_37 rfl rfl ?_
    refine rn_iload (pc := 38) 5 dX12_feed_38 rfl ?_
    obtain ⟨b11, hb11, h11⟩ := bnd_some h10
    obtain ⟨qb11, kb11⟩ := chk_elim hb11
    cases qb11
    obtain ⟨u12, hu12, h12⟩ := bnd_some h11
    refine rn_callV (pc := 40) (n := 1) (As := [.int p5]) (rest := []) (eX12_lay (d := d + 0) hu12) (by omega) okX12 kb11 tw_1170 tw_79 tw_1168 tw_1169 tw_33 (by decide +kernel) rfl (Nat.le_of_ble_eq_true rfl) dX12_feed_40 rfl ?_
    refine rn_aload_n (pc := 43) 0 dX12_feed_43 rfl rfl ?_
    obtain ⟨v13, hv13, h13⟩ := bnd_some h12
    refine rn_getI (pc := 44) (k := 16) okX12 (by decide) tw_1009 rfl dX12_feed_44 hv13 ?_
    cases h13
    exact rn_iret (pc := 47) rfl dX12_feed_47
theorem eX12_feed {l : Launch} {G : Gt} {d : Nat} {t0 : Nat} {p1 : Int32} {p2 : Int32} {p3 : Int32} {p4 : Int32} {p5 : Int32} {u : Mem} {y : Int32 × Mem} (h : fX12_feed t0 p1 p2 p3 p4 p5 u = some y) : Ex l G iX12_feed (d + 1) [rv (some t0), .int p1, .int p2, .int p3, .int p4, .int p5] u (.returned (some (.int y.1))) y.2 := Ex.of (by decide +kernel) (by decide) (Nat.le_of_ble_eq_true rfl) rfl (tX12_feed h)
theorem tX12_end {l : Launch} {G : Gt} {d : Nat} {t0 : Nat} {p1 : Int32} {u : Mem} {y : Int32 × Mem} (h : fX12_end t0 p1 u = some y) : Rn l G iX12_end (d + 1) 0 [(0, rv (some t0)), (1, .int p1)] [] u (.returned (some (.int y.1))) y.2 := by
  unfold fX12_end at h
  refine rn_iload_n (pc := 0) 1 dX12_end_0 rfl rfl ?_
  refine rn_i2l (pc := 1) dX12_end_1 ?_
  refine rn_lconst (pc := 2) (v := 0) dX12_end_2 (by decide) ?_
  refine rn_aload_n (pc := 3) 0 dX12_end_3 rfl rfl ?_
  obtain ⟨v1, hv1, h1⟩ := bnd_some h
  refine rn_getI (pc := 4) (k := 16) okX12 (by decide) tw_1009 rfl dX12_end_4 hv1 ?_
  refine rn_i2l (pc := 7) dX12_end_7 ?_
  obtain ⟨v2, hv2, h2⟩ := bnd_some h1
  refine rn_callS (pc := 8) (n := 3) (As := [.long (Int32.toInt64 p1), .long (0 : Int64), .long (Int32.toInt64 v1)]) (rest := []) (eX12_in (d := d + 0) hv2) (by omega) tw_1177 tw_79 tw_1175 tw_1176 (by decide +kernel) rfl (Nat.le_of_ble_eq_true rfl) dX12_end_8 rfl ?_
  rcases if_elim h2 with ⟨c3, h3⟩ | ⟨c3, h3⟩
  · refine rn_zne_f (pc := 11) 16 dX12_end_11 (by decide) c3 ?_
    refine rn_iconst (pc := 14) (v := -1) dX12_end_14 (by decide) ?_
    cases h3
    exact rn_iret (pc := 15) rfl dX12_end_15
  · refine rn_zne_t (pc := 11) (tgt := 16) dX12_end_11 (by decide) c3 ?_
    refine rn_aload_n (pc := 16) 0 dX12_end_16 rfl rfl ?_
    refine rn_iload_n (pc := 17) 1 dX12_end_17 rfl rfl ?_
    obtain ⟨u4, hu4, h4⟩ := bnd_some h3
    refine rn_putI (pc := 18) (k := 16) okX12 (by decide) tw_1009 (Or.inl rfl) (Or.inl rfl) dX12_end_18 hu4 ?_
    refine rn_iload_n (pc := 21) 1 dX12_end_21 rfl rfl ?_
    cases h4
    exact rn_iret (pc := 22) rfl dX12_end_22
theorem eX12_end {l : Launch} {G : Gt} {d : Nat} {t0 : Nat} {p1 : Int32} {u : Mem} {y : Int32 × Mem} (h : fX12_end t0 p1 u = some y) : Ex l G iX12_end (d + 1) [rv (some t0), .int p1] u (.returned (some (.int y.1))) y.2 := Ex.of (by decide +kernel) (by decide) (Nat.le_of_ble_eq_true rfl) rfl (tX12_end h)
theorem btX12_rules_45 {l : Launch} {G : Gt} {d : Nat} {t0 : Nat} {i1 : Int32} {s2 : Int32} {u : Mem} {y : (Int32 × Mem) ⊕ (Mem)} {o : Outcome} {u' : Mem} (h : bX12_rules_45 t0 i1 s2 u = some y) (k0 : ∀ s' : Int32 × Mem, y = .inl s' → Rn l G iX12_rules (d + 8) 45 [(0, rv (some t0)), (1, .int i1), (2, .int s'.1)] [] s'.2 o u') (k1 : ∀ r : Mem, y = .inr (r) → Rn l G iX12_rules (d + 8) 81 [(0, rv (some t0)), (1, .int i1)] [] r o u') : Rn l G iX12_rules (d + 8) 45 [(0, rv (some t0)), (1, .int i1), (2, .int s2)] [] u o u' := by
  unfold bX12_rules_45 at h
  refine rn_iload_n (pc := 45) 2 dX12_rules_45 rfl rfl ?_
  refine rn_bipush (pc := 46) (v := 11) dX12_rules_46 (by decide) ?_
  rcases if_elim h with ⟨c14, h1⟩ | ⟨c14, h1⟩
  · refine rn_ige_f (pc := 48) 81 dX12_rules_48 (by decide) c14 ?_
    refine rn_aload_n (pc := 51) 0 dX12_rules_51 rfl rfl ?_
    obtain ⟨v15, hv15, h2⟩ := bnd_some h1
    refine rn_getR (pc := 52) (k := 10) okX12 (by decide) tw_1003 rfl dX12_rules_52 hv15 ?_
    refine rn_iload_n (pc := 55) 2 dX12_rules_55 rfl rfl ?_
    refine rn_aload_n (pc := 56) 0 dX12_rules_56 rfl rfl ?_
    obtain ⟨v16, hv16, h3⟩ := bnd_some h2
    refine rn_getR (pc := 57) (k := 12) okX12 (by decide) tw_1005 rfl dX12_rules_57 hv16 ?_
    refine rn_iload_n (pc := 60) 2 dX12_rules_60 rfl rfl ?_
    obtain ⟨v17, hv17, h4⟩ := bnd_some h3
    refine rn_iald (pc := 61) dX12_rules_61 hv17 ?_
    obtain ⟨u18, hu18, h5⟩ := bnd_some h4
    refine rn_iast (pc := 62) dX12_rules_62 hu18 ?_
    refine rn_aload_n (pc := 63) 0 dX12_rules_63 rfl rfl ?_
    obtain ⟨v19, hv19, h6⟩ := bnd_some h5
    refine rn_getR (pc := 64) (k := 11) okX12 (by decide) tw_1004 rfl dX12_rules_64 hv19 ?_
    refine rn_iload_n (pc := 67) 2 dX12_rules_67 rfl rfl ?_
    refine rn_aload_n (pc := 68) 0 dX12_rules_68 rfl rfl ?_
    obtain ⟨v20, hv20, h7⟩ := bnd_some h6
    refine rn_getR (pc := 69) (k := 13) okX12 (by decide) tw_1006 rfl dX12_rules_69 hv20 ?_
    refine rn_iload_n (pc := 72) 2 dX12_rules_72 rfl rfl ?_
    obtain ⟨v21, hv21, h8⟩ := bnd_some h7
    refine rn_iald (pc := 73) dX12_rules_73 hv21 ?_
    obtain ⟨u22, hu22, h9⟩ := bnd_some h8
    refine rn_iast (pc := 74) dX12_rules_74 hu22 ?_
    obtain ⟨x23, ex23, h10⟩ := nm_elim h9
    refine rn_iinc (pc := 75) (v := x23) (lv' := [(2, .int x23), (0, rv (some t0)), (1, .int i1)]) 2 dX12_rules_75 rfl (by rw [ex23]; rfl) (by decide) rfl ?_
    refine rn_goto (pc := 78) (tgt := 45) dX12_rules_78 (by decide) ?_
    cases h10
    exact rn_sub [1, 2, 0] rfl (k0 _ rfl)
  · refine rn_ige_t (pc := 48) (tgt := 81) dX12_rules_48 (by decide) c14 ?_
    cases h1
    exact rn_sub [0, 1] rfl (k1 _ rfl)
theorem lX12_rules_45 {l : Launch} {G : Gt} {d : Nat} {t0 : Nat} {i1 : Int32} {N : Nat} {s0 : Int32 × Mem} {r : Mem} {o : Outcome} {u' : Mem} (h : lp (fun s : Int32 × Mem => bX12_rules_45 t0 i1 s.1 s.2) N s0 = some r) (k1 : Rn l G iX12_rules (d + 8) 81 [(0, rv (some t0)), (1, .int i1)] [] r o u') : Rn l G iX12_rules (d + 8) 45 [(0, rv (some t0)), (1, .int i1), (2, .int s0.1)] [] s0.2 o u' :=
  lp_run (P := fun s : Int32 × Mem => Rn l G iX12_rules (d + 8) 45 [(0, rv (some t0)), (1, .int i1), (2, .int s.1)] [] s.2 o u') (E := fun r => Rn l G iX12_rules (d + 8) 81 [(0, rv (some t0)), (1, .int i1)] [] r o u') (fun s y hy k0 kE => btX12_rules_45 hy (fun s' e => k0 s' e) (fun r e => kE r e)) N s0 r h k1
theorem tX12_rules {l : Launch} {G : Gt} {d : Nat} {t0 : Nat} {u : Mem} {y : Int32 × Mem} (h : fX12_rules t0 u = some y) : Rn l G iX12_rules (d + 8) 0 [(0, rv (some t0))] [] u (.returned (some (.int y.1))) y.2 := by
  unfold fX12_rules at h
  refine rn_aload_n (pc := 0) 0 dX12_rules_0 rfl rfl ?_
  refine rn_aload_n (pc := 1) 0 dX12_rules_1 rfl rfl ?_
  obtain ⟨v1, hv1, h1⟩ := bnd_some h
  refine rn_getI (pc := 2) (k := 16) okX12 (by decide) tw_1009 rfl dX12_rules_2 hv1 ?_
  obtain ⟨u2, hu2, h2⟩ := bnd_some h1
  refine rn_putI (pc := 5) (k := 17) okX12 (by decide) tw_1010 (Or.inl rfl) (Or.inl rfl) dX12_rules_5 hu2 ?_
  refine rn_aload_n (pc := 8) 0 dX12_rules_8 rfl rfl ?_
  refine rn_iconst (pc := 9) (v := 0) dX12_rules_9 (by decide) ?_
  obtain ⟨u3, hu3, h3⟩ := bnd_some h2
  refine rn_putI (pc := 10) (k := 16) okX12 (by decide) tw_1009 (Or.inl rfl) (Or.inl rfl) dX12_rules_10 hu3 ?_
  refine rn_aload_n (pc := 13) 0 dX12_rules_13 rfl rfl ?_
  refine rn_iconst (pc := 14) (v := 0) dX12_rules_14 (by decide) ?_
  obtain ⟨u4, hu4, h4⟩ := bnd_some h3
  refine rn_putI (pc := 15) (k := 19) okX12 (by decide) tw_1012 (Or.inl rfl) (Or.inl rfl) dX12_rules_15 hu4 ?_
  refine rn_aload_n (pc := 18) 0 dX12_rules_18 rfl rfl ?_
  refine rn_iconst (pc := 19) (v := 0) dX12_rules_19 (by decide) ?_
  obtain ⟨u5, hu5, h5⟩ := bnd_some h4
  refine rn_putI (pc := 20) (k := 22) okX12 (by decide) tw_1015 (Or.inl rfl) (Or.inl rfl) dX12_rules_20 hu5 ?_
  refine rn_aload_n (pc := 23) 0 dX12_rules_23 rfl rfl ?_
  refine rn_iconst (pc := 24) (v := -1) dX12_rules_24 (by decide) ?_
  obtain ⟨u6, hu6, h6⟩ := bnd_some h5
  refine rn_putI (pc := 25) (k := 23) okX12 (by decide) tw_1016 (Or.inl rfl) (Or.inl rfl) dX12_rules_25 hu6 ?_
  refine rn_aload_n (pc := 28) 0 dX12_rules_28 rfl rfl ?_
  obtain ⟨b7, hb7, h7⟩ := bnd_some h6
  obtain ⟨qb7, kb7⟩ := chk_elim hb7
  cases qb7
  obtain ⟨u8, hu8, h8⟩ := bnd_some h7
  refine rn_callV (pc := 29) (n := 0) (As := []) (rest := []) (eX12_scan (d := d + 6) hu8) (by omega) okX12 kb7 tw_1184 tw_79 tw_1182 tw_1183 tw_34 (by decide +kernel) rfl (Nat.le_of_ble_eq_true rfl) dX12_rules_29 rfl ?_
  refine rn_aload_n (pc := 32) 0 dX12_rules_32 rfl rfl ?_
  obtain ⟨b9, hb9, h9⟩ := bnd_some h8
  obtain ⟨qb9, kb9⟩ := chk_elim hb9
  cases qb9
  obtain ⟨r10, u11, hr10, h10⟩ := bnd2_some h9
  rcases r10 with v12 | a13
  · have h11 := sumE_l h10
    refine rn_callV (pc := 33) (n := 0) (As := []) (rest := []) (eX12_readRules (d := d + 0) hr10) (by omega) okX12 kb9 tw_1196 tw_79 tw_1194 tw_1195 tw_36 (by decide +kernel) rfl (cat_le8 (Nat.le_of_ble_eq_true rfl)) dX12_rules_33 rfl ?_
    refine rn_istore_n (pc := 36) (lv' := [(1, .int v12), (0, rv (some t0))]) dX12_rules_36 rfl (by decide) rfl ?_
    refine rn_goto (pc := 37) (tgt := 43) dX12_rules_37 (by decide) ?_
    refine rn_iconst (pc := 43) (v := 0) dX12_rules_43 (by decide) ?_
    refine rn_istore_n (pc := 44) (lv' := [(2, .int (0 : Int32)), (1, .int v12), (0, rv (some t0))]) dX12_rules_44 rfl (by decide) rfl ?_
    obtain ⟨r24, hr24, h12⟩ := bnd_some h11
    refine rn_sub [2, 1, 0] rfl (lX12_rules_45 hr24 ?_)
    refine rn_aload_n (pc := 81) 0 dX12_rules_81 rfl rfl ?_
    refine rn_aload_n (pc := 82) 0 dX12_rules_82 rfl rfl ?_
    obtain ⟨v25, hv25, h13⟩ := bnd_some h12
    refine rn_getI (pc := 83) (k := 5) okX12 (by decide) tw_998 rfl dX12_rules_83 hv25 ?_
    obtain ⟨u26, hu26, h14⟩ := bnd_some h13
    refine rn_putI (pc := 86) (k := 0) okX12 (by decide) tw_993 (Or.inl rfl) (Or.inl rfl) dX12_rules_86 hu26 ?_
    refine rn_aload_n (pc := 89) 0 dX12_rules_89 rfl rfl ?_
    refine rn_aload_n (pc := 90) 0 dX12_rules_90 rfl rfl ?_
    obtain ⟨v27, hv27, h15⟩ := bnd_some h14
    refine rn_getI (pc := 91) (k := 6) okX12 (by decide) tw_999 rfl dX12_rules_91 hv27 ?_
    obtain ⟨u28, hu28, h16⟩ := bnd_some h15
    refine rn_putI (pc := 94) (k := 1) okX12 (by decide) tw_994 (Or.inl rfl) (Or.inl rfl) dX12_rules_94 hu28 ?_
    refine rn_aload_n (pc := 97) 0 dX12_rules_97 rfl rfl ?_
    refine rn_aload_n (pc := 98) 0 dX12_rules_98 rfl rfl ?_
    obtain ⟨v29, hv29, h17⟩ := bnd_some h16
    refine rn_getI (pc := 99) (k := 7) okX12 (by decide) tw_1000 rfl dX12_rules_99 hv29 ?_
    obtain ⟨u30, hu30, h18⟩ := bnd_some h17
    refine rn_putI (pc := 102) (k := 2) okX12 (by decide) tw_995 (Or.inl rfl) (Or.inl rfl) dX12_rules_102 hu30 ?_
    refine rn_aload_n (pc := 105) 0 dX12_rules_105 rfl rfl ?_
    refine rn_aload_n (pc := 106) 0 dX12_rules_106 rfl rfl ?_
    obtain ⟨v31, hv31, h19⟩ := bnd_some h18
    refine rn_getI (pc := 107) (k := 8) okX12 (by decide) tw_1001 rfl dX12_rules_107 hv31 ?_
    obtain ⟨u32, hu32, h20⟩ := bnd_some h19
    refine rn_putI (pc := 110) (k := 3) okX12 (by decide) tw_996 (Or.inl rfl) (Or.inl rfl) dX12_rules_110 hu32 ?_
    refine rn_aload_n (pc := 113) 0 dX12_rules_113 rfl rfl ?_
    refine rn_aload_n (pc := 114) 0 dX12_rules_114 rfl rfl ?_
    obtain ⟨v33, hv33, h21⟩ := bnd_some h20
    refine rn_getI (pc := 115) (k := 9) okX12 (by decide) tw_1002 rfl dX12_rules_115 hv33 ?_
    obtain ⟨u34, hu34, h22⟩ := bnd_some h21
    refine rn_putI (pc := 118) (k := 4) okX12 (by decide) tw_997 (Or.inl rfl) (Or.inl rfl) dX12_rules_118 hu34 ?_
    refine rn_iload_n (pc := 121) 1 dX12_rules_121 rfl rfl ?_
    cases h22
    exact rn_iret (pc := 122) rfl dX12_rules_122
  · have h23 := sumE_r h10
    obtain ⟨k35, hk35, h24⟩ := bnd_some h23
    obtain ⟨qk35, kk35⟩ := chk_elim hk35
    cases qk35
    refine rn_callVC (pc := 33) (s0 := 28) (e0 := 37) (h0 := 40) (t0 := 152) (n := 0) (As := []) (rest := []) (eTX12_readRules (d := d + 0) hr10) (by omega) (by decide +kernel) (by decide) (by decide) tw_943 kk35 okX12 kb9 tw_1196 tw_79 tw_1194 tw_1195 tw_36 (by decide +kernel) rfl (cat_le8 (Nat.le_of_ble_eq_true rfl)) dX12_rules_33 rfl ?_
    refine rn_astore_n (pc := 40) (lv' := [(2, rv (some a13)), (0, rv (some t0))]) dX12_rules_40 rfl (by decide) rfl ?_
    refine rn_iconst (pc := 41) (v := -1) dX12_rules_41 (by decide) ?_
    cases h24
    exact rn_iret (pc := 42) rfl dX12_rules_42
theorem eX12_rules {l : Launch} {G : Gt} {d : Nat} {t0 : Nat} {u : Mem} {y : Int32 × Mem} (h : fX12_rules t0 u = some y) : ExW l G iX12_rules [(28, 37, 40, 152)] (d + 8) [rv (some t0)] u (.returned (some (.int y.1))) y.2 := ExW.of (by decide +kernel) (by decide) (Nat.le_of_ble_eq_true rfl) (lv := [(0, rv (some t0))]) rfl (by decide +kernel) (tX12_rules h)
theorem tX12_fault {l : Launch} {G : Gt} {d : Nat} {t0 : Nat} {p1 : Int32} {u : Mem} {y : Int32} (h : fX12_fault t0 p1 u = some y) : Rn l G iX12_fault d 0 [(0, rv (some t0)), (1, .int p1)] [] u (.returned (some (.int y))) u := by
  unfold fX12_fault at h
  refine rn_iload_n (pc := 0) 1 dX12_fault_0 rfl rfl ?_
  rcases if_elim h with ⟨c1, h1⟩ | ⟨c1, h1⟩
  · refine rn_zne_f (pc := 1) 11 dX12_fault_1 (by decide) c1 ?_
    refine rn_aload_n (pc := 4) 0 dX12_fault_4 rfl rfl ?_
    obtain ⟨v2, hv2, h2⟩ := bnd_some h1
    refine rn_getI (pc := 5) (k := 22) okX12 (by decide) tw_1015 rfl dX12_fault_5 hv2 ?_
    refine rn_goto (pc := 8) (tgt := 24) dX12_fault_8 (by decide) ?_
    cases h2
    exact rn_iret (pc := 24) rfl dX12_fault_24
  · refine rn_zne_t (pc := 1) (tgt := 11) dX12_fault_1 (by decide) c1 ?_
    refine rn_iload_n (pc := 11) 1 dX12_fault_11 rfl rfl ?_
    refine rn_iconst (pc := 12) (v := 1) dX12_fault_12 (by decide) ?_
    rcases if_elim h1 with ⟨c3, h3⟩ | ⟨c3, h3⟩
    · refine rn_ine_f (pc := 13) 23 dX12_fault_13 (by decide) c3 ?_
      refine rn_aload_n (pc := 16) 0 dX12_fault_16 rfl rfl ?_
      obtain ⟨v4, hv4, h4⟩ := bnd_some h3
      refine rn_getI (pc := 17) (k := 23) okX12 (by decide) tw_1016 rfl dX12_fault_17 hv4 ?_
      refine rn_goto (pc := 20) (tgt := 24) dX12_fault_20 (by decide) ?_
      cases h4
      exact rn_iret (pc := 24) rfl dX12_fault_24
    · refine rn_ine_t (pc := 13) (tgt := 23) dX12_fault_13 (by decide) c3 ?_
      refine rn_iconst (pc := 23) (v := -1) dX12_fault_23 (by decide) ?_
      cases h3
      exact rn_iret (pc := 24) rfl dX12_fault_24
theorem eX12_fault {l : Launch} {G : Gt} {d : Nat} {t0 : Nat} {p1 : Int32} {u : Mem} {y : Int32} (h : fX12_fault t0 p1 u = some y) : Ex l G iX12_fault d [rv (some t0), .int p1] u (.returned (some (.int y))) u := Ex.of (by decide +kernel) (by decide) (Nat.le_of_ble_eq_true rfl) rfl (tX12_fault h)
theorem tX12_rule {l : Launch} {G : Gt} {d : Nat} {t0 : Nat} {p1 : Int32} {u : Mem} {y : Int32} (h : fX12_rule t0 p1 u = some y) : Rn l G iX12_rule (d + 1) 0 [(0, rv (some t0)), (1, .int p1)] [] u (.returned (some (.int y))) u := by
  unfold fX12_rule at h
  refine rn_iload_n (pc := 0) 1 dX12_rule_0 rfl rfl ?_
  refine rn_i2l (pc := 1) dX12_rule_1 ?_
  refine rn_ldc2 (pc := 2) tw_1225 dX12_rule_2 ?_
  refine rn_ldc2 (pc := 5) tw_1226 dX12_rule_5 ?_
  obtain ⟨v1, hv1, h1⟩ := bnd_some h
  refine rn_callS (pc := 8) (n := 3) (As := [.long (Int32.toInt64 p1), .long (10 : Int64), .long (20 : Int64)]) (rest := []) (eX12_in (d := d + 0) hv1) (by omega) tw_1177 tw_79 tw_1175 tw_1176 (by decide +kernel) rfl (Nat.le_of_ble_eq_true rfl) dX12_rule_8 rfl ?_
  rcases if_elim h1 with ⟨c2, h2⟩ | ⟨c2, h2⟩
  · refine rn_zeq_t (pc := 11) (tgt := 24) dX12_rule_11 (by decide) c2 ?_
    refine rn_iload_n (pc := 24) 1 dX12_rule_24 rfl rfl ?_
    refine rn_i2l (pc := 25) dX12_rule_25 ?_
    refine rn_ldc2 (pc := 26) tw_1227 dX12_rule_26 ?_
    refine rn_ldc2 (pc := 29) tw_1228 dX12_rule_29 ?_
    obtain ⟨v3, hv3, h3⟩ := bnd_some h2
    refine rn_callS (pc := 32) (n := 3) (As := [.long (Int32.toInt64 p1), .long (30 : Int64), .long (40 : Int64)]) (rest := []) (eX12_in (d := d + 0) hv3) (by omega) tw_1177 tw_79 tw_1175 tw_1176 (by decide +kernel) rfl (Nat.le_of_ble_eq_true rfl) dX12_rule_32 rfl ?_
    rcases if_elim h3 with ⟨c4, h4⟩ | ⟨c4, h4⟩
    · refine rn_zeq_t (pc := 35) (tgt := 48) dX12_rule_35 (by decide) c4 ?_
      refine rn_iload_n (pc := 48) 1 dX12_rule_48 rfl rfl ?_
      rcases if_elim h4 with ⟨c5, h5⟩ | ⟨c5, h5⟩
      · refine rn_tsw_in (pc := 49) (tgt := 84) (off := 35) 0 dX12_rule_49 c5 (by decide) (by decide) ?_
        refine rn_aload_n (pc := 84) 0 dX12_rule_84 rfl rfl ?_
        obtain ⟨v6, hv6, h6⟩ := bnd_some h5
        refine rn_getI (pc := 85) (k := 0) okX12 (by decide) tw_993 rfl dX12_rule_85 hv6 ?_
        cases h6
        exact rn_iret (pc := 88) rfl dX12_rule_88
      · skip
        rcases if_elim h5 with ⟨c7, h7⟩ | ⟨c7, h7⟩
        · refine rn_tsw_in (pc := 49) (tgt := 89) (off := 40) 1 dX12_rule_49 c7 (by decide) (by decide) ?_
          refine rn_aload_n (pc := 89) 0 dX12_rule_89 rfl rfl ?_
          obtain ⟨v8, hv8, h8⟩ := bnd_some h7
          refine rn_getI (pc := 90) (k := 1) okX12 (by decide) tw_994 rfl dX12_rule_90 hv8 ?_
          cases h8
          exact rn_iret (pc := 93) rfl dX12_rule_93
        · skip
          rcases if_elim h7 with ⟨c9, h9⟩ | ⟨c9, h9⟩
          · refine rn_tsw_in (pc := 49) (tgt := 94) (off := 45) 2 dX12_rule_49 c9 (by decide) (by decide) ?_
            refine rn_aload_n (pc := 94) 0 dX12_rule_94 rfl rfl ?_
            obtain ⟨v10, hv10, h10⟩ := bnd_some h9
            refine rn_getI (pc := 95) (k := 2) okX12 (by decide) tw_995 rfl dX12_rule_95 hv10 ?_
            cases h10
            exact rn_iret (pc := 98) rfl dX12_rule_98
          · skip
            rcases if_elim h9 with ⟨c11, h11⟩ | ⟨c11, h11⟩
            · refine rn_tsw_in (pc := 49) (tgt := 99) (off := 50) 3 dX12_rule_49 c11 (by decide) (by decide) ?_
              refine rn_aload_n (pc := 99) 0 dX12_rule_99 rfl rfl ?_
              obtain ⟨v12, hv12, h12⟩ := bnd_some h11
              refine rn_getI (pc := 100) (k := 3) okX12 (by decide) tw_996 rfl dX12_rule_100 hv12 ?_
              cases h12
              exact rn_iret (pc := 103) rfl dX12_rule_103
            · skip
              rcases if_elim h11 with ⟨c13, h13⟩ | ⟨c13, h13⟩
              · refine rn_tsw_in (pc := 49) (tgt := 104) (off := 55) 4 dX12_rule_49 c13 (by decide) (by decide) ?_
                refine rn_aload_n (pc := 104) 0 dX12_rule_104 rfl rfl ?_
                obtain ⟨v14, hv14, h14⟩ := bnd_some h13
                refine rn_getI (pc := 105) (k := 4) okX12 (by decide) tw_997 rfl dX12_rule_105 hv14 ?_
                cases h14
                exact rn_iret (pc := 108) rfl dX12_rule_108
              · skip
                refine rn_tsw_out (pc := 49) (tgt := 109) dX12_rule_49 (sw_out (n := 4) (lt_s (lt_s (lt_s (lt_s (lt_s (lt_0) c5) c7) c9) c11) c13)) (by decide) ?_
                refine rn_bipush (pc := 109) (v := -9) dX12_rule_109 (by decide) ?_
                cases h13
                exact rn_iret (pc := 111) rfl dX12_rule_111
    · refine rn_zeq_f (pc := 35) 48 dX12_rule_35 (by decide) c4 ?_
      refine rn_aload_n (pc := 38) 0 dX12_rule_38 rfl rfl ?_
      obtain ⟨v15, hv15, h15⟩ := bnd_some h4
      refine rn_getR (pc := 39) (k := 11) okX12 (by decide) tw_1004 rfl dX12_rule_39 hv15 ?_
      refine rn_iload_n (pc := 42) 1 dX12_rule_42 rfl rfl ?_
      refine rn_bipush (pc := 43) (v := 30) dX12_rule_43 (by decide) ?_
      refine rn_isub (pc := 45) dX12_rule_45 ?_
      obtain ⟨v16, hv16, h16⟩ := bnd_some h15
      refine rn_iald (pc := 46) dX12_rule_46 hv16 ?_
      cases h16
      exact rn_iret (pc := 47) rfl dX12_rule_47
  · refine rn_zeq_f (pc := 11) 24 dX12_rule_11 (by decide) c2 ?_
    refine rn_aload_n (pc := 14) 0 dX12_rule_14 rfl rfl ?_
    obtain ⟨v17, hv17, h17⟩ := bnd_some h2
    refine rn_getR (pc := 15) (k := 10) okX12 (by decide) tw_1003 rfl dX12_rule_15 hv17 ?_
    refine rn_iload_n (pc := 18) 1 dX12_rule_18 rfl rfl ?_
    refine rn_bipush (pc := 19) (v := 10) dX12_rule_19 (by decide) ?_
    refine rn_isub (pc := 21) dX12_rule_21 ?_
    obtain ⟨v18, hv18, h18⟩ := bnd_some h17
    refine rn_iald (pc := 22) dX12_rule_22 hv18 ?_
    cases h18
    exact rn_iret (pc := 23) rfl dX12_rule_23
theorem eX12_rule {l : Launch} {G : Gt} {d : Nat} {t0 : Nat} {p1 : Int32} {u : Mem} {y : Int32} (h : fX12_rule t0 p1 u = some y) : Ex l G iX12_rule (d + 1) [rv (some t0), .int p1] u (.returned (some (.int y))) u := Ex.of (by decide +kernel) (by decide) (Nat.le_of_ble_eq_true rfl) rfl (tX12_rule h)
theorem tX12_isQuestion {l : Launch} {G : Gt} {d : Nat} {t0 : Nat} {p1 : Int32} {u : Mem} {y : Int32} (h : fX12_isQuestion t0 p1 u = some y) : Rn l G iX12_isQuestion (d + 1) 0 [(0, rv (some t0)), (1, .int p1)] [] u (.returned (some (.int y))) u := by
  unfold fX12_isQuestion at h
  refine rn_iload_n (pc := 0) 1 dX12_isQuestion_0 rfl rfl ?_
  refine rn_i2l (pc := 1) dX12_isQuestion_1 ?_
  refine rn_lconst (pc := 2) (v := 0) dX12_isQuestion_2 (by decide) ?_
  refine rn_aload_n (pc := 3) 0 dX12_isQuestion_3 rfl rfl ?_
  obtain ⟨v1, hv1, h1⟩ := bnd_some h
  refine rn_getI (pc := 4) (k := 25) okX12 (by decide) tw_1018 rfl dX12_isQuestion_4 hv1 ?_
  refine rn_i2l (pc := 7) dX12_isQuestion_7 ?_
  refine rn_lconst (pc := 8) (v := 1) dX12_isQuestion_8 (by decide) ?_
  refine rn_lsub (pc := 9) dX12_isQuestion_9 ?_
  obtain ⟨v2, hv2, h2⟩ := bnd_some h1
  refine rn_callS (pc := 10) (n := 3) (As := [.long (Int32.toInt64 p1), .long (0 : Int64), .long ((Int32.toInt64 v1) - (1 : Int64))]) (rest := []) (eX12_in (d := d + 0) hv2) (by omega) tw_1177 tw_79 tw_1175 tw_1176 (by decide +kernel) rfl (Nat.le_of_ble_eq_true rfl) dX12_isQuestion_10 rfl ?_
  obtain ⟨rfl, hz⟩ := retZ_elim h2
  exact rn_zret (pc := 13) hz rfl dX12_isQuestion_13
theorem eX12_isQuestion {l : Launch} {G : Gt} {d : Nat} {t0 : Nat} {p1 : Int32} {u : Mem} {y : Int32} (h : fX12_isQuestion t0 p1 u = some y) : Ex l G iX12_isQuestion (d + 1) [rv (some t0), .int p1] u (.returned (some (.int y))) u := Ex.of (by decide +kernel) (by decide) (Nat.le_of_ble_eq_true rfl) rfl (tX12_isQuestion h)
theorem tX12_isGuesser {l : Launch} {G : Gt} {d : Nat} {p0 : Int32} {u : Mem} {y : Int32} (h : fX12_isGuesser p0 u = some y) : Rn l G iX12_isGuesser (d + 1) 0 [(0, .int p0)] [] u (.returned (some (.int y))) u := by
  unfold fX12_isGuesser at h
  refine rn_iload_n (pc := 0) 0 dX12_isGuesser_0 rfl rfl ?_
  refine rn_i2l (pc := 1) dX12_isGuesser_1 ?_
  refine rn_lconst (pc := 2) (v := 0) dX12_isGuesser_2 (by decide) ?_
  refine rn_ldc2 (pc := 3) tw_1252 dX12_isGuesser_3 ?_
  obtain ⟨v1, hv1, h1⟩ := bnd_some h
  refine rn_callS (pc := 6) (n := 3) (As := [.long (Int32.toInt64 p0), .long (0 : Int64), .long (19 : Int64)]) (rest := []) (eX12_in (d := d + 0) hv1) (by omega) tw_1177 tw_79 tw_1175 tw_1176 (by decide +kernel) rfl (Nat.le_of_ble_eq_true rfl) dX12_isGuesser_6 rfl ?_
  obtain ⟨rfl, hz⟩ := retZ_elim h1
  exact rn_zret (pc := 9) hz rfl dX12_isGuesser_9
theorem eX12_isGuesser {l : Launch} {G : Gt} {d : Nat} {p0 : Int32} {u : Mem} {y : Int32} (h : fX12_isGuesser p0 u = some y) : Ex l G iX12_isGuesser (d + 1) [.int p0] u (.returned (some (.int y))) u := Ex.of (by decide +kernel) (by decide) (Nat.le_of_ble_eq_true rfl) rfl (tX12_isGuesser h)
theorem tX12_question {l : Launch} {G : Gt} {d : Nat} {t0 : Nat} {p1 : Int32} {p2 : Int32} {u : Mem} {y : Int32 × Mem} (h : fX12_question t0 p1 p2 u = some y) : Rn l G iX12_question (d + 2) 0 [(0, rv (some t0)), (1, .int p1), (2, .int p2)] [] u (.returned (some (.int y.1))) y.2 := by
  unfold fX12_question at h
  refine rn_iload_n (pc := 0) 1 dX12_question_0 rfl rfl ?_
  obtain ⟨v1, hv1, h1⟩ := bnd_some h
  refine rn_callS (pc := 1) (n := 1) (As := [.int p1]) (rest := []) (eX12_isDay (d := d + 0) hv1) (by omega) tw_1235 tw_79 tw_1233 tw_1234 (by decide +kernel) rfl (Nat.le_of_ble_eq_true rfl) dX12_question_1 rfl ?_
  rcases if_elim h1 with ⟨c2, h2⟩ | ⟨c2, h2⟩
  · refine rn_zeq_t (pc := 4) (tgt := 28) dX12_question_4 (by decide) c2 ?_
    refine rn_bipush (pc := 28) (v := -2) dX12_question_28 (by decide) ?_
    cases h2
    exact rn_iret (pc := 30) rfl dX12_question_30
  · refine rn_zeq_f (pc := 4) 28 dX12_question_4 (by decide) c2 ?_
    refine rn_iload_n (pc := 7) 2 dX12_question_7 rfl rfl ?_
    refine rn_i2l (pc := 8) dX12_question_8 ?_
    refine rn_iload_n (pc := 9) 1 dX12_question_9 rfl rfl ?_
    refine rn_i2l (pc := 10) dX12_question_10 ?_
    refine rn_ldc2 (pc := 11) tw_1236 dX12_question_11 ?_
    obtain ⟨v3, hv3, h3⟩ := bnd_some h2
    refine rn_callS (pc := 14) (n := 3) (As := [.long (Int32.toInt64 p2), .long (Int32.toInt64 p1), .long (999 : Int64)]) (rest := []) (eX12_in (d := d + 1) hv3) (by omega) tw_1177 tw_79 tw_1175 tw_1176 (by decide +kernel) rfl (Nat.le_of_ble_eq_true rfl) dX12_question_14 rfl ?_
    rcases if_elim h3 with ⟨c4, h4⟩ | ⟨c4, h4⟩
    · refine rn_zeq_t (pc := 17) (tgt := 28) dX12_question_17 (by decide) c4 ?_
      refine rn_bipush (pc := 28) (v := -2) dX12_question_28 (by decide) ?_
      cases h4
      exact rn_iret (pc := 30) rfl dX12_question_30
    · refine rn_zeq_f (pc := 17) 28 dX12_question_17 (by decide) c4 ?_
      refine rn_iload_n (pc := 20) 2 dX12_question_20 rfl rfl ?_
      refine rn_iload_n (pc := 21) 1 dX12_question_21 rfl rfl ?_
      refine rn_isub (pc := 22) dX12_question_22 ?_
      refine rn_bipush (pc := 23) (v := 60) dX12_question_23 (by decide) ?_
      rcases if_elim h4 with ⟨c5, h5⟩ | ⟨c5, h5⟩
      · refine rn_ilt_t (pc := 25) (tgt := 31) dX12_question_25 (by decide) c5 ?_
        refine rn_aload_n (pc := 31) 0 dX12_question_31 rfl rfl ?_
        obtain ⟨v6, hv6, h6⟩ := bnd_some h5
        refine rn_getI (pc := 32) (k := 25) okX12 (by decide) tw_1018 rfl dX12_question_32 hv6 ?_
        refine rn_bipush (pc := 35) (v := 20) dX12_question_35 (by decide) ?_
        rcases if_elim h6 with ⟨c7, h7⟩ | ⟨c7, h7⟩
        · refine rn_ine_f (pc := 37) 43 dX12_question_37 (by decide) c7 ?_
          refine rn_bipush (pc := 40) (v := -3) dX12_question_40 (by decide) ?_
          cases h7
          exact rn_iret (pc := 42) rfl dX12_question_42
        · refine rn_ine_t (pc := 37) (tgt := 43) dX12_question_37 (by decide) c7 ?_
          refine rn_aload_n (pc := 43) 0 dX12_question_43 rfl rfl ?_
          obtain ⟨v8, hv8, h8⟩ := bnd_some h7
          refine rn_getR (pc := 44) (k := 28) okX12 (by decide) tw_1021 rfl dX12_question_44 hv8 ?_
          refine rn_aload_n (pc := 47) 0 dX12_question_47 rfl rfl ?_
          obtain ⟨v9, hv9, h9⟩ := bnd_some h8
          refine rn_getI (pc := 48) (k := 25) okX12 (by decide) tw_1018 rfl dX12_question_48 hv9 ?_
          refine rn_iload_n (pc := 51) 1 dX12_question_51 rfl rfl ?_
          obtain ⟨u10, hu10, h10⟩ := bnd_some h9
          refine rn_iast (pc := 52) dX12_question_52 hu10 ?_
          refine rn_aload_n (pc := 53) 0 dX12_question_53 rfl rfl ?_
          obtain ⟨v11, hv11, h11⟩ := bnd_some h10
          refine rn_getR (pc := 54) (k := 29) okX12 (by decide) tw_1022 rfl dX12_question_54 hv11 ?_
          refine rn_aload_n (pc := 57) 0 dX12_question_57 rfl rfl ?_
          obtain ⟨v12, hv12, h12⟩ := bnd_some h11
          refine rn_getI (pc := 58) (k := 25) okX12 (by decide) tw_1018 rfl dX12_question_58 hv12 ?_
          refine rn_iload_n (pc := 61) 2 dX12_question_61 rfl rfl ?_
          obtain ⟨u13, hu13, h13⟩ := bnd_some h12
          refine rn_iast (pc := 62) dX12_question_62 hu13 ?_
          refine rn_aload_n (pc := 63) 0 dX12_question_63 rfl rfl ?_
          obtain ⟨v14, hv14, h14⟩ := bnd_some h13
          refine rn_getR (pc := 64) (k := 30) okX12 (by decide) tw_1023 rfl dX12_question_64 hv14 ?_
          refine rn_aload_n (pc := 67) 0 dX12_question_67 rfl rfl ?_
          obtain ⟨v15, hv15, h15⟩ := bnd_some h14
          refine rn_getI (pc := 68) (k := 25) okX12 (by decide) tw_1018 rfl dX12_question_68 hv15 ?_
          refine rn_iconst (pc := 71) (v := 3) dX12_question_71 (by decide) ?_
          obtain ⟨u16, hu16, h16⟩ := bnd_some h15
          refine rn_iast (pc := 72) dX12_question_72 hu16 ?_
          refine rn_aload_n (pc := 73) 0 dX12_question_73 rfl rfl ?_
          obtain ⟨v17, hv17, h17⟩ := bnd_some h16
          refine rn_getR (pc := 74) (k := 31) okX12 (by decide) tw_1024 rfl dX12_question_74 hv17 ?_
          refine rn_aload_n (pc := 77) 0 dX12_question_77 rfl rfl ?_
          obtain ⟨v18, hv18, h18⟩ := bnd_some h17
          refine rn_getI (pc := 78) (k := 25) okX12 (by decide) tw_1018 rfl dX12_question_78 hv18 ?_
          refine rn_iconst (pc := 81) (v := -1) dX12_question_81 (by decide) ?_
          obtain ⟨u19, hu19, h19⟩ := bnd_some h18
          refine rn_iast (pc := 82) dX12_question_82 hu19 ?_
          refine rn_aload_n (pc := 83) 0 dX12_question_83 rfl rfl ?_
          refine rn_dup (pc := 84) dX12_question_84 (rv_cat _) ?_
          obtain ⟨v20, hv20, h20⟩ := bnd_some h19
          refine rn_getI (pc := 85) (k := 25) okX12 (by decide) tw_1018 rfl dX12_question_85 hv20 ?_
          refine rn_iconst (pc := 88) (v := 1) dX12_question_88 (by decide) ?_
          refine rn_iadd (pc := 89) dX12_question_89 ?_
          obtain ⟨u21, hu21, h21⟩ := bnd_some h20
          refine rn_putI (pc := 90) (k := 25) okX12 (by decide) tw_1018 (Or.inl rfl) (Or.inl rfl) dX12_question_90 hu21 ?_
          refine rn_aload_n (pc := 93) 0 dX12_question_93 rfl rfl ?_
          obtain ⟨v22, hv22, h22⟩ := bnd_some h21
          refine rn_getI (pc := 94) (k := 25) okX12 (by decide) tw_1018 rfl dX12_question_94 hv22 ?_
          refine rn_iconst (pc := 97) (v := 1) dX12_question_97 (by decide) ?_
          refine rn_isub (pc := 98) dX12_question_98 ?_
          cases h22
          exact rn_iret (pc := 99) rfl dX12_question_99
      · refine rn_ilt_f (pc := 25) 31 dX12_question_25 (by decide) c5 ?_
        refine rn_bipush (pc := 28) (v := -2) dX12_question_28 (by decide) ?_
        cases h5
        exact rn_iret (pc := 30) rfl dX12_question_30
theorem eX12_question {l : Launch} {G : Gt} {d : Nat} {t0 : Nat} {p1 : Int32} {p2 : Int32} {u : Mem} {y : Int32 × Mem} (h : fX12_question t0 p1 p2 u = some y) : Ex l G iX12_question (d + 2) [rv (some t0), .int p1, .int p2] u (.returned (some (.int y.1))) y.2 := Ex.of (by decide +kernel) (by decide) (Nat.le_of_ble_eq_true rfl) rfl (tX12_question h)
theorem jtX12_tell_56 {l : Launch} {G : Gt} {d : Nat} {t0 : Nat} {p1 : Int32} {p2 : Int32} {p3 : Int32} {u : Mem} {y : Int32 × Mem} (h : jX12_tell_56 t0 p1 p2 p3 u = some y) : Rn l G iX12_tell (d + 2) 56 [(0, rv (some t0)), (1, .int p1), (2, .int p2), (3, .int p3)] [] u (.returned (some (.int y.1))) y.2 := by
  unfold jX12_tell_56 at h
  refine rn_aload_n (pc := 56) 0 dX12_tell_56 rfl rfl ?_
  obtain ⟨v11, hv11, h1⟩ := bnd_some h
  refine rn_getR (pc := 57) (k := 30) okX12 (by decide) tw_1023 rfl dX12_tell_57 hv11 ?_
  refine rn_iload_n (pc := 60) 1 dX12_tell_60 rfl rfl ?_
  obtain ⟨v12, hv12, h2⟩ := bnd_some h1
  refine rn_iald (pc := 61) dX12_tell_61 hv12 ?_
  refine rn_istore (pc := 62) (lv' := [(4, .int v12), (0, rv (some t0)), (1, .int p1), (2, .int p2), (3, .int p3)]) dX12_tell_62 (by decide) rfl ?_
  refine rn_aload_n (pc := 64) 1 dX12_tell_64 rfl rfl ?_
  obtain ⟨v13, hv13, h3⟩ := bnd_some h2
  refine rn_getR (pc := 65) (k := 30) okX12 (by decide) tw_1023 rfl dX12_tell_65 hv13 ?_
  refine rn_iload_n (pc := 68) 2 dX12_tell_68 rfl rfl ?_
  refine rn_iload_n (pc := 69) 3 dX12_tell_69 rfl rfl ?_
  obtain ⟨u14, hu14, h4⟩ := bnd_some h3
  refine rn_iast (pc := 70) dX12_tell_70 hu14 ?_
  refine rn_aload_n (pc := 71) 1 dX12_tell_71 rfl rfl ?_
  obtain ⟨v15, hv15, h5⟩ := bnd_some h4
  refine rn_getR (pc := 72) (k := 31) okX12 (by decide) tw_1024 rfl dX12_tell_72 hv15 ?_
  refine rn_iload_n (pc := 75) 2 dX12_tell_75 rfl rfl ?_
  refine rn_iload_n (pc := 76) 3 dX12_tell_76 rfl rfl ?_
  refine rn_iconst (pc := 77) (v := 2) dX12_tell_77 (by decide) ?_
  rcases if_elim h5 with ⟨c16, h6⟩ | ⟨c16, h6⟩
  · refine rn_ige_f (pc := 78) 85 dX12_tell_78 (by decide) c16 ?_
    refine rn_iload_n (pc := 81) 4 dX12_tell_81 rfl rfl ?_
    refine rn_goto (pc := 82) (tgt := 86) dX12_tell_82 (by decide) ?_
    obtain ⟨u17, hu17, h7⟩ := bnd_some h6
    refine rn_iast (pc := 86) dX12_tell_86 hu17 ?_
    refine rn_iload (pc := 87) 0 dX12_tell_87 rfl ?_
    cases h7
    exact rn_iret (pc := 89) rfl dX12_tell_89
  · refine rn_ige_t (pc := 78) (tgt := 85) dX12_tell_78 (by decide) c16 ?_
    refine rn_iconst (pc := 85) (v := -1) dX12_tell_85 (by decide) ?_
    obtain ⟨u18, hu18, h8⟩ := bnd_some h6
    refine rn_iast (pc := 86) dX12_tell_86 hu18 ?_
    refine rn_iload (pc := 87) 0 dX12_tell_87 rfl ?_
    cases h8
    exact rn_iret (pc := 89) rfl dX12_tell_89
theorem tX12_tell {l : Launch} {G : Gt} {d : Nat} {t0 : Nat} {p1 : Int32} {p2 : Int32} {p3 : Int32} {u : Mem} {y : Int32 × Mem} (h : fX12_tell t0 p1 p2 p3 u = some y) : Rn l G iX12_tell (d + 2) 0 [(0, rv (some t0)), (1, .int p1), (2, .int p2), (3, .int p3)] [] u (.returned (some (.int y.1))) y.2 := by
  unfold fX12_tell at h
  refine rn_aload_n (pc := 0) 0 dX12_tell_0 rfl rfl ?_
  refine rn_iload_n (pc := 1) 1 dX12_tell_1 rfl rfl ?_
  obtain ⟨b1, hb1, h1⟩ := bnd_some h
  obtain ⟨qb1, kb1⟩ := chk_elim hb1
  cases qb1
  obtain ⟨v2, hv2, h2⟩ := bnd_some h1
  refine rn_callV (pc := 2) (n := 1) (As := [.int p1]) (rest := []) (eX12_isQuestion (d := d + 0) hv2) (by omega) okX12 kb1 tw_1243 tw_79 tw_1241 tw_1242 tw_43 (by decide +kernel) rfl (Nat.le_of_ble_eq_true rfl) dX12_tell_2 rfl ?_
  rcases if_elim h2 with ⟨c3, h3⟩ | ⟨c3, h3⟩
  · refine rn_zeq_t (pc := 5) (tgt := 20) dX12_tell_5 (by decide) c3 ?_
    refine rn_bipush (pc := 20) (v := -2) dX12_tell_20 (by decide) ?_
    cases h3
    exact rn_iret (pc := 22) rfl dX12_tell_22
  · refine rn_zeq_f (pc := 5) 20 dX12_tell_5 (by decide) c3 ?_
    refine rn_iload_n (pc := 8) 2 dX12_tell_8 rfl rfl ?_
    refine rn_i2l (pc := 9) dX12_tell_9 ?_
    refine rn_lconst (pc := 10) (v := 0) dX12_tell_10 (by decide) ?_
    refine rn_ldc2 (pc := 11) tw_1244 dX12_tell_11 ?_
    obtain ⟨v4, hv4, h4⟩ := bnd_some h3
    refine rn_callS (pc := 14) (n := 3) (As := [.long (Int32.toInt64 p2), .long (0 : Int64), .long (3 : Int64)]) (rest := []) (eX12_in (d := d + 1) hv4) (by omega) tw_1177 tw_79 tw_1175 tw_1176 (by decide +kernel) rfl (Nat.le_of_ble_eq_true rfl) dX12_tell_14 rfl ?_
    rcases if_elim h4 with ⟨c5, h5⟩ | ⟨c5, h5⟩
    · refine rn_zne_f (pc := 17) 23 dX12_tell_17 (by decide) c5 ?_
      refine rn_bipush (pc := 20) (v := -2) dX12_tell_20 (by decide) ?_
      cases h5
      exact rn_iret (pc := 22) rfl dX12_tell_22
    · refine rn_zne_t (pc := 17) (tgt := 23) dX12_tell_17 (by decide) c5 ?_
      refine rn_iload_n (pc := 23) 2 dX12_tell_23 rfl rfl ?_
      refine rn_iconst (pc := 24) (v := 2) dX12_tell_24 (by decide) ?_
      rcases if_elim h5 with ⟨c6, h6⟩ | ⟨c6, h6⟩
      · refine rn_ige_f (pc := 25) 49 dX12_tell_25 (by decide) c6 ?_
        refine rn_iload_n (pc := 28) 3 dX12_tell_28 rfl rfl ?_
        refine rn_i2l (pc := 29) dX12_tell_29 ?_
        refine rn_aload_n (pc := 30) 0 dX12_tell_30 rfl rfl ?_
        obtain ⟨v7, hv7, h7⟩ := bnd_some h6
        refine rn_getR (pc := 31) (k := 28) okX12 (by decide) tw_1021 rfl dX12_tell_31 hv7 ?_
        refine rn_iload_n (pc := 34) 1 dX12_tell_34 rfl rfl ?_
        obtain ⟨v8, hv8, h8⟩ := bnd_some h7
        refine rn_iald (pc := 35) dX12_tell_35 hv8 ?_
        refine rn_i2l (pc := 36) dX12_tell_36 ?_
        refine rn_ldc2 (pc := 37) tw_1236 dX12_tell_37 ?_
        obtain ⟨v9, hv9, h9⟩ := bnd_some h8
        refine rn_callS (pc := 40) (n := 3) (As := [.long (Int32.toInt64 p3), .long (Int32.toInt64 v8), .long (999 : Int64)]) (rest := []) (eX12_in (d := d + 1) hv9) (by omega) tw_1177 tw_79 tw_1175 tw_1176 (by decide +kernel) rfl (Nat.le_of_ble_eq_true rfl) dX12_tell_40 rfl ?_
        rcases if_elim h9 with ⟨c10, h10⟩ | ⟨c10, h10⟩
        · refine rn_zne_f (pc := 43) 56 dX12_tell_43 (by decide) c10 ?_
          refine rn_goto (pc := 46) (tgt := 53) dX12_tell_46 (by decide) ?_
          refine rn_bipush (pc := 53) (v := -2) dX12_tell_53 (by decide) ?_
          cases h10
          exact rn_iret (pc := 55) rfl dX12_tell_55
        · refine rn_zne_t (pc := 43) (tgt := 56) dX12_tell_43 (by decide) c10 ?_
          exact rn_sub [0, 1, 2, 3] rfl (jtX12_tell_56 h10)
      · refine rn_ige_t (pc := 25) (tgt := 49) dX12_tell_25 (by decide) c6 ?_
        refine rn_iload_n (pc := 49) 3 dX12_tell_49 rfl rfl ?_
        rcases if_elim h6 with ⟨c19, h11⟩ | ⟨c19, h11⟩
        · refine rn_zeq_t (pc := 50) (tgt := 56) dX12_tell_50 (by decide) c19 ?_
          exact rn_sub [0, 1, 2, 3] rfl (jtX12_tell_56 h11)
        · refine rn_zeq_f (pc := 50) 56 dX12_tell_50 (by decide) c19 ?_
          refine rn_bipush (pc := 53) (v := -2) dX12_tell_53 (by decide) ?_
          cases h11
          exact rn_iret (pc := 55) rfl dX12_tell_55
theorem eX12_tell {l : Launch} {G : Gt} {d : Nat} {t0 : Nat} {p1 : Int32} {p2 : Int32} {p3 : Int32} {u : Mem} {y : Int32 × Mem} (h : fX12_tell t0 p1 p2 p3 u = some y) : Ex l G iX12_tell (d + 2) [rv (some t0), .int p1, .int p2, .int p3] u (.returned (some (.int y.1))) y.2 := Ex.of (by decide +kernel) (by decide) (Nat.le_of_ble_eq_true rfl) rfl (tX12_tell h)
