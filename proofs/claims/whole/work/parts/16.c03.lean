abbrev iX10_feed : MI := (yX10_feed, cX10_feed, 6, (some .int))
def fX10_feed (t0 : Nat) (p1 : Int32) (p2 : Int32) (p3 : Int32) (p4 : Int32) (p5 : Int32) (u : Mem) : Option (Int32 × Mem) :=
  (gfR u (some t0) 10 0).bind fun v1 =>
  (gfI u v1 8 1).bind fun v2 =>
  if (500 : Int32) < (v2 + (20 : Int32)) then
    some ((-3 : Int32), u)
  else
    (gfR u (some t0) 10 0).bind fun v4 =>
    (chk u v4 8).bind fun b5 =>
    (fX8_append b5 p1 u).bind fun u6 =>
    (gfR u6 (some t0) 10 0).bind fun v7 =>
    (chk u6 v7 8).bind fun b8 =>
    (fX8_append b8 p2 u6).bind fun u9 =>
    (gfR u9 (some t0) 10 0).bind fun v10 =>
    (chk u9 v10 8).bind fun b11 =>
    (fX8_append b11 p3 u9).bind fun u12 =>
    (gfR u12 (some t0) 10 0).bind fun v13 =>
    (chk u12 v13 8).bind fun b14 =>
    (fX8_append b14 p4 u12).bind fun u15 =>
    (gfR u15 (some t0) 10 0).bind fun v16 =>
    (chk u15 v16 8).bind fun b17 =>
    (fX8_append b17 p5 u15).bind fun u18 =>
    (gfR u18 (some t0) 10 0).bind fun v19 =>
    (gfI u18 v19 8 1).bind fun v20 =>
    some (v20, u18)
abbrev iX10_end : MI := (yX10_end, cX10_end, 2, (some .int))
def fX10_end (t0 : Nat) (p1 : Int32) (u : Mem) : Option (Int32 × Mem) :=
  if p1 < 0 then
    some ((-1 : Int32), u)
  else
    (gfR u (some t0) 10 0).bind fun v2 =>
    (gfI u v2 8 1).bind fun v3 =>
    if v3 < p1 then
      some ((-1 : Int32), u)
    else
      (gfR u (some t0) 10 0).bind fun v5 =>
      (pfI u v5 8 1 p1).bind fun u6 =>
      some (p1, u6)
abbrev iX10_rules : MI := (yX10_rules, cX10_rules, 2, (some .int))
def fX10_rules (t0 : Nat) (u : Mem) : Option (Int32 × Mem) :=
  (gfR u (some t0) 10 1).bind fun v1 =>
  (chk u v1 6).bind fun b2 =>
  bnd2 (fX6_readText b2 u) fun v3 u4 =>
  (gfR u4 (some t0) 10 0).bind fun v5 =>
  (pfI u4 v5 8 1 (0 : Int32)).bind fun u6 =>
  if v3 = (-1 : Int32) then
    some (v3, u6)
  else
    (gfR u6 (some t0) 10 2).bind fun v8 =>
    (gfR u6 (some t0) 10 1).bind fun v9 =>
    (gfR u6 v9 6 0).bind fun v10 =>
    (chk u6 v8 7).bind fun b11 =>
    (fX7_copyFrom b11 v10 u6).bind fun u12 =>
    (gfR u12 (some t0) 10 3).bind fun v13 =>
    (gfI u12 v13 0 5).bind fun v14 =>
    (pfI u12 v13 0 5 (v14 + (1 : Int32))).bind fun u15 =>
    some (v3, u15)
abbrev iX10_fault : MI := (yX10_fault, cX10_fault, 2, (some .int))
def fX10_fault (t0 : Nat) (p1 : Int32) (u : Mem) : Option (Int32) :=
  if p1 = 0 then
    (gfR u (some t0) 10 1).bind fun v2 =>
    (gfI u v2 6 1).bind fun v3 =>
    some v3
  else if p1 = 1 then
      (gfR u (some t0) 10 1).bind fun v5 =>
      (gfI u v5 6 2).bind fun v6 =>
      some v6
    else 
      some (-1 : Int32)
abbrev iX10_rule : MI := (yX10_rule, cX10_rule, 2, (some .int))
def jX10_rule_50 (t0 : Nat) (p1 : Int32) (u : Mem) : Option (Int32) :=
  if p1 = 0 then
    (gfR u (some t0) 10 2).bind fun v4 =>
    (gfI u v4 7 2).bind fun v5 =>
    some v5
  else if p1 = 1 then
      (gfR u (some t0) 10 2).bind fun v7 =>
      (gfI u v7 7 3).bind fun v8 =>
      some v8
    else if p1 = 2 then
        (gfR u (some t0) 10 2).bind fun v10 =>
        (gfI u v10 7 4).bind fun v11 =>
        some v11
      else if p1 = 3 then
          (gfR u (some t0) 10 2).bind fun v13 =>
          (gfI u v13 7 5).bind fun v14 =>
          some v14
        else if p1 = 4 then
            (gfR u (some t0) 10 2).bind fun v16 =>
            (gfI u v16 7 6).bind fun v17 =>
            some v17
          else 
            some (-9 : Int32)
def jX10_rule_25 (t0 : Nat) (p1 : Int32) (u : Mem) : Option (Int32) :=
  if p1 < (30 : Int32) then
    jX10_rule_50 t0 p1 u
  else
    if p1 < (41 : Int32) then
      (gfR u (some t0) 10 2).bind fun v19 =>
      (gfR u v19 7 1).bind fun v20 =>
      (alI u v20 20 (p1 - (30 : Int32))).bind fun v21 =>
      some v21
    else
      jX10_rule_50 t0 p1 u
def fX10_rule (t0 : Nat) (p1 : Int32) (u : Mem) : Option (Int32) :=
  if p1 < (10 : Int32) then
    jX10_rule_25 t0 p1 u
  else
    if p1 < (21 : Int32) then
      (gfR u (some t0) 10 2).bind fun v23 =>
      (gfR u v23 7 0).bind fun v24 =>
      (alI u v24 20 (p1 - (10 : Int32))).bind fun v25 =>
      some v25
    else
      jX10_rule_25 t0 p1 u
abbrev iX10_isDay : MI := (yX10_isDay, cX10_isDay, 1, (some .boolean))
def fX10_isDay (p0 : Int32) (u : Mem) : Option (Int32) :=
  if p0 < 0 then
    some (0 : Int32)
  else
    if p0 < (1000 : Int32) then
      some (1 : Int32)
    else
      some (0 : Int32)
abbrev iX10_question : MI := (yX10_question, cX10_question, 3, (some .int))
def fX10_question (t0 : Nat) (p1 : Int32) (p2 : Int32) (u : Mem) : Option (Int32 × Mem) :=
  (fX10_isDay p1 u).bind fun v1 =>
  if v1 = 0 then
    some ((-2 : Int32), u)
  else
    (fX10_isDay p2 u).bind fun v3 =>
    if v3 = 0 then
      some ((-2 : Int32), u)
    else
      if p2 < p1 then
        some ((-2 : Int32), u)
      else
        if (p2 - p1) < (60 : Int32) then
          (gfR u (some t0) 10 3).bind fun v7 =>
          (gfI u v7 0 3).bind fun v8 =>
          if v8 < (20 : Int32) then
            (gfR u (some t0) 10 3).bind fun v10 =>
            (chk u v10 0).bind fun b11 =>
            bnd2 (fX0_addQuestion b11 p1 p2 u) fun v12 u13 =>
            some (v12, u13)
          else
            some ((-3 : Int32), u)
        else
          some ((-2 : Int32), u)
abbrev iX10_tell : MI := (yX10_tell, cX10_tell, 7, (some .int))
def jX10_tell_109 (t0 : Nat) (p6 : Int32) (w0 : Int32) (w1 : Option Nat) (u : Mem) : Option (Int32 × Mem) :=
  (pfI u w1 5 3 w0).bind fun u16 =>
  (gfR u16 (some t0) 10 3).bind fun v17 =>
  (gfI u16 v17 0 5).bind fun v18 =>
  (pfI u16 v17 0 5 (v18 + (1 : Int32))).bind fun u19 =>
  some (p6, u19)
def jX10_tell_72 (t0 : Nat) (p2 : Int32) (p3 : Int32) (p4 : Option Nat) (p5 : Int32) (u : Mem) : Option (Int32 × Mem) :=
  if p2 < 0 then
    some ((-2 : Int32), u)
  else
    if (3 : Int32) < p2 then
      some ((-2 : Int32), u)
    else
      (gfI u p4 5 2).bind fun v13 =>
      (pfI u p4 5 2 p2).bind fun u14 =>
      if p5 = 0 then
        jX10_tell_109 t0 v13 (-1 : Int32) p4 u14
      else
        jX10_tell_109 t0 v13 p3 p4 u14
def jX10_tell_39 (t0 : Nat) (p2 : Int32) (p3 : Int32) (p4 : Option Nat) (w0 : Int32) (u : Mem) : Option (Int32 × Mem) :=
  if w0 = 0 then
    if p3 = 0 then
      jX10_tell_72 t0 p2 p3 p4 w0 u
    else
      some ((-2 : Int32), u)
  else
    (fX10_isDay p3 u).bind fun v20 =>
    if v20 = 0 then
      some ((-2 : Int32), u)
    else
      (gfI u p4 5 0).bind fun v22 =>
      if p3 < v22 then
        some ((-2 : Int32), u)
      else
        jX10_tell_72 t0 p2 p3 p4 w0 u
def jX10_tell_34 (t0 : Nat) (p2 : Int32) (p3 : Int32) (p4 : Option Nat) (u : Mem) : Option (Int32 × Mem) :=
  jX10_tell_39 t0 p2 p3 p4 (1 : Int32) u
def fX10_tell (t0 : Nat) (p1 : Int32) (p2 : Int32) (p3 : Int32) (u : Mem) : Option (Int32 × Mem) :=
  (gfR u (some t0) 10 3).bind fun v1 =>
  (chk u v1 0).bind fun b2 =>
  (fX0_hasQuestion b2 p1 u).bind fun v3 =>
  if v3 = 0 then
    some ((-2 : Int32), u)
  else
    (gfR u (some t0) 10 3).bind fun v5 =>
    (gfR u v5 0 0).bind fun v6 =>
    (alR u v6 24 p1).bind fun v7 =>
    if p2 = 0 then
      jX10_tell_34 t0 p2 p3 v7 u
    else
      if p2 = (1 : Int32) then
        jX10_tell_34 t0 p2 p3 v7 u
      else
        jX10_tell_39 t0 p2 p3 v7 (0 : Int32) u
abbrev iX10_isGuesser : MI := (yX10_isGuesser, cX10_isGuesser, 1, (some .boolean))
def fX10_isGuesser (p0 : Int32) (u : Mem) : Option (Int32) :=
  if p0 < 0 then
    some (0 : Int32)
  else
    if p0 < (20 : Int32) then
      some (1 : Int32)
    else
      some (0 : Int32)
abbrev iX10_isTenth : MI := (yX10_isTenth, cX10_isTenth, 1, (some .boolean))
def fX10_isTenth (p0 : Int32) (u : Mem) : Option (Int32) :=
  if p0 < 0 then
    some (0 : Int32)
  else
    if p0 < (11 : Int32) then
      some (1 : Int32)
    else
      some (0 : Int32)
abbrev iX10_guess : MI := (yX10_guess, cX10_guess, 6, (some .int))
def fX10_guess (t0 : Nat) (p1 : Int32) (p2 : Int32) (p3 : Int32) (p4 : Int32) (u : Mem) : Option (Int32 × Mem) :=
  (fX10_isGuesser p1 u).bind fun v1 =>
  if v1 = 0 then
    some ((-2 : Int32), u)
  else
    (gfR u (some t0) 10 3).bind fun v3 =>
    (chk u v3 0).bind fun b4 =>
    (fX0_hasQuestion b4 p2 u).bind fun v5 =>
    if v5 = 0 then
      some ((-2 : Int32), u)
    else
      (fX10_isTenth p4 u).bind fun v7 =>
      if v7 = 0 then
        some ((-2 : Int32), u)
      else
        (gfR u (some t0) 10 3).bind fun v9 =>
        (gfR u v9 0 0).bind fun v10 =>
        (alR u v10 24 p2).bind fun v11 =>
        (gfI u v11 5 0).bind fun v12 =>
        if p3 < v12 then
          some ((-2 : Int32), u)
        else
          (gfI u v11 5 1).bind fun v14 =>
          if v14 < p3 then
            some ((-2 : Int32), u)
          else
            (gfI u v11 5 2).bind fun v16 =>
            if v16 = (3 : Int32) then
              (gfR u (some t0) 10 3).bind fun v18 =>
              (chk u v18 0).bind fun b19 =>
              (fX0_hasLaterGuess b19 p1 p2 p3 u).bind fun v20 =>
              if v20 = 0 then
                (gfR u (some t0) 10 3).bind fun v22 =>
                (gfI u v22 0 4).bind fun v23 =>
                if v23 < (300 : Int32) then
                  (gfR u (some t0) 10 3).bind fun v25 =>
                  (chk u v25 0).bind fun b26 =>
                  bnd2 (fX0_addGuess b26 p1 p2 p3 p4 u) fun v27 u28 =>
                  some (v27, u28)
                else
                  some ((-3 : Int32), u)
              else
                some ((-4 : Int32), u)
            else
              some ((-4 : Int32), u)
abbrev iX10_holds : MI := (yX10_holds, cX10_holds, 4, (some .int))
def fX10_holds (t0 : Nat) (p1 : Int32) (p2 : Int32) (p3 : Int32) (u : Mem) : Option (Int32) :=
  (fX10_isGuesser p1 u).bind fun v1 =>
  if v1 = 0 then
    some (-2 : Int32)
  else
    (gfR u (some t0) 10 3).bind fun v3 =>
    (chk u v3 0).bind fun b4 =>
    (fX0_hasQuestion b4 p2 u).bind fun v5 =>
    if v5 = 0 then
      some (-2 : Int32)
    else
      (fX10_isDay p3 u).bind fun v7 =>
      if v7 = 0 then
        some (-2 : Int32)
      else
        (gfR u (some t0) 10 3).bind fun v9 =>
        (chk u v9 0).bind fun b10 =>
        (fX0_heldTenth b10 p1 p2 p3 u).bind fun v11 =>
        some v11
abbrev iX10_isZeroOrOne : MI := (yX10_isZeroOrOne, cX10_isZeroOrOne, 1, (some .boolean))
def fX10_isZeroOrOne (p0 : Int32) (u : Mem) : Option (Int32) :=
  if p0 = 0 then
    some (1 : Int32)
  else
    if p0 = (1 : Int32) then
      some (1 : Int32)
    else
      some (0 : Int32)
abbrev iX10_rows : MI := (yX10_rows, cX10_rows, 4, (some .int))
def fX10_rows (t0 : Nat) (p1 : Int32) (p2 : Int32) (p3 : Int32) (u : Mem) : Option (Int32 × Mem) :=
  (fX10_isGuesser p1 u).bind fun v1 =>
  if v1 = 0 then
    some ((-2 : Int32), u)
  else
    (gfR u (some t0) 10 3).bind fun v3 =>
    (chk u v3 0).bind fun b4 =>
    (fX0_hasQuestion b4 p2 u).bind fun v5 =>
    if v5 = 0 then
      some ((-2 : Int32), u)
    else
      (fX10_isZeroOrOne p3 u).bind fun v7 =>
      if v7 = 0 then
        some ((-2 : Int32), u)
      else
        (gfR u (some t0) 10 4).bind fun v9 =>
        (chk u v9 1).bind fun b10 =>
        (fX1_refresh b10 u).bind fun u11 =>
        if p3 = 0 then
          (gfR u11 (some t0) 10 4).bind fun v13 =>
          (gfR u11 v13 1 0).bind fun v14 =>
          (fX10_cell p1 p2 u11).bind fun v15 =>
          (alI u11 v14 20 v15).bind fun v16 =>
          some (v16, u11)
        else
          (gfR u11 (some t0) 10 4).bind fun v17 =>
          (gfR u11 v17 1 1).bind fun v18 =>
          (fX10_cell p1 p2 u11).bind fun v19 =>
          (alI u11 v18 20 v19).bind fun v20 =>
          some (v20, u11)
abbrev iX10_mean : MI := (yX10_mean, cX10_mean, 3, (some .int))
def fX10_mean (t0 : Nat) (p1 : Int32) (p2 : Int32) (u : Mem) : Option (Int32 × Mem) :=
  (fX10_isGuesser p1 u).bind fun v1 =>
  if v1 = 0 then
    some ((-2 : Int32), u)
  else
    (fX10_isZeroOrOne p2 u).bind fun v3 =>
    if v3 = 0 then
      some ((-2 : Int32), u)
    else
      (gfR u (some t0) 10 4).bind fun v5 =>
      (chk u v5 1).bind fun b6 =>
      (fX1_refresh b6 u).bind fun u7 =>
      (gfR u7 (some t0) 10 4).bind fun v8 =>
      (chk u7 v8 1).bind fun b9 =>
      (fX1_hasMean b9 p1 u7).bind fun v10 =>
      if v10 = 0 then
        some ((0 : Int32), u7)
      else
        if p2 = 0 then
          (gfR u7 (some t0) 10 4).bind fun v13 =>
          (chk u7 v13 1).bind fun b14 =>
          (fX1_meanAbove b14 p1 u7).bind fun v15 =>
          some (v15, u7)
        else
          (gfR u7 (some t0) 10 4).bind fun v16 =>
          (chk u7 v16 1).bind fun b17 =>
          (fX1_meanBelow b17 p1 u7).bind fun v18 =>
          some (v18, u7)
abbrev iX10_ranked : MI := (yX10_ranked, cX10_ranked, 2, (some .int))
def fX10_ranked (t0 : Nat) (p1 : Int32) (u : Mem) : Option (Int32 × Mem) :=
  (gfR u (some t0) 10 4).bind fun v1 =>
  (chk u v1 1).bind fun b2 =>
  (fX1_refresh b2 u).bind fun u3 =>
  (gfR u3 (some t0) 10 4).bind fun v4 =>
  (chk u3 v4 1).bind fun b5 =>
  (fX1_guesserAtRank b5 p1 u3).bind fun v6 =>
  some (v6, u3)
abbrev iX10_pays : MI := (yX10_pays, cX10_pays, 2, (some .int))
def fX10_pays (t0 : Nat) (p1 : Int32) (u : Mem) : Option (Int32) :=
  (fX10_isTenth p1 u).bind fun v1 =>
  if v1 = 0 then
    some (-2 : Int32)
  else
    (gfR u (some t0) 10 4).bind fun v3 =>
    (chk u v3 1).bind fun b4 =>
    (fX1_bestTenthToSay b4 p1 u).bind fun v5 =>
    some v5
abbrev iX10_honest : MI := (yX10_honest, cX10_honest, 1, (some .int))
def fX10_honest (t0 : Nat) (u : Mem) : Option (Int32) :=
  (gfR u (some t0) 10 4).bind fun v1 =>
  (chk u v1 1).bind fun b2 =>
  (fX1_leastDishonestBelief b2 u).bind fun v3 =>
  some v3
abbrev iX10_copies : MI := (yX10_copies, cX10_copies, 3, (some .int))
def fX10_copies (t0 : Nat) (p1 : Int32) (p2 : Int32) (u : Mem) : Option (Int32) :=
  (fX10_isGuesser p1 u).bind fun v1 =>
  if v1 = 0 then
    some (-2 : Int32)
  else
    (fX10_isGuesser p2 u).bind fun v3 =>
    if v3 = 0 then
      some (-2 : Int32)
    else
      if p1 = p2 then
        some (-2 : Int32)
      else
        (gfR u (some t0) 10 2).bind fun v6 =>
        (chk u v6 7).bind fun b7 =>
        (fX7_tellsCopy b7 u).bind fun v8 =>
        if v8 = 0 then
          some (-4 : Int32)
        else
          (gfR u (some t0) 10 5).bind fun v10 =>
          (chk u v10 2).bind fun b11 =>
          (fX2_countCopies b11 p1 p2 u).bind fun v12 =>
          some v12
abbrev iX10_weight : MI := (yX10_weight, cX10_weight, 3, (some .int))
def fX10_weight (t0 : Nat) (p1 : Int32) (p2 : Int32) (u : Mem) : Option (Int32 × Mem) :=
  (fX10_isGuesser p1 u).bind fun v1 =>
  if v1 = 0 then
    some ((-2 : Int32), u)
  else
    (fX10_isDay p2 u).bind fun v3 =>
    if v3 = 0 then
      some ((-2 : Int32), u)
    else
      (gfR u (some t0) 10 5).bind fun v5 =>
      (chk u v5 2).bind fun b6 =>
      (fX2_refresh b6 u).bind fun u7 =>
      (gfR u7 (some t0) 10 5).bind fun v8 =>
      (chk u7 v8 2).bind fun b9 =>
      (fX2_weightOn b9 p1 p2 u7).bind fun v10 =>
      some (v10, u7)
abbrev iX10_joined : MI := (yX10_joined, cX10_joined, 3, (some .int))
def fX10_joined (t0 : Nat) (p1 : Int32) (p2 : Int32) (u : Mem) : Option (Int32 × Mem) :=
  (gfR u (some t0) 10 3).bind fun v1 =>
  (chk u v1 0).bind fun b2 =>
  (fX0_hasQuestion b2 p1 u).bind fun v3 =>
  if v3 = 0 then
    some ((-2 : Int32), u)
  else
    (fX10_isDay p2 u).bind fun v5 =>
    if v5 = 0 then
      some ((-2 : Int32), u)
    else
      (gfR u (some t0) 10 5).bind fun v7 =>
      (chk u v7 2).bind fun b8 =>
      (fX2_refresh b8 u).bind fun u9 =>
      (gfR u9 (some t0) 10 5).bind fun v10 =>
      (chk u9 v10 2).bind fun b11 =>
      bnd2 (fX2_joinedTenth b11 p1 p2 u9) fun v12 u13 =>
      some (v12, u13)
abbrev iX10_together : MI := (yX10_together, cX10_together, 3, (some .int))
def fX10_together (t0 : Nat) (p1 : Int32) (p2 : Int32) (u : Mem) : Option (Int32 × Mem) :=
  (gfR u (some t0) 10 3).bind fun v1 =>
  (chk u v1 0).bind fun b2 =>
  (fX0_hasQuestion b2 p1 u).bind fun v3 =>
  if v3 = 0 then
    some ((-2 : Int32), u)
  else
    (fX10_isZeroOrOne p2 u).bind fun v5 =>
    if v5 = 0 then
      some ((-2 : Int32), u)
    else
      (gfR u (some t0) 10 5).bind fun v7 =>
      (chk u v7 2).bind fun b8 =>
      (fX2_refresh b8 u).bind fun u9 =>
      if p2 = 0 then
        (gfR u9 (some t0) 10 5).bind fun v11 =>
        (chk u9 v11 2).bind fun b12 =>
        bnd2 (fX2_joinedRows b12 p1 u9) fun v13 u14 =>
        some (v13, u14)
      else
        (gfR u9 (some t0) 10 5).bind fun v15 =>
        (chk u9 v15 2).bind fun b16 =>
        bnd2 (fX2_joinedSum b16 p1 u9) fun v17 u18 =>
        some (v17, u18)
abbrev iX10_luck : MI := (yX10_luck, cX10_luck, 3, (some .long))
def fX10_luck (t0 : Nat) (p1 : Int32) (p2 : Int32) (u : Mem) : Option (Int64 × Mem) :=
  (fX10_isGuesser p1 u).bind fun v1 =>
  if v1 = 0 then
    some ((-2 : Int64), u)
  else
    if p2 < 0 then
      some ((-2 : Int64), u)
    else
      if (2 : Int32) < p2 then
        some ((-2 : Int64), u)
      else
        (gfR u (some t0) 10 5).bind fun v5 =>
        (chk u v5 2).bind fun b6 =>
        (fX2_refresh b6 u).bind fun u7 =>
        (gfR u7 (some t0) 10 5).bind fun v8 =>
        (chk u7 v8 2).bind fun b9 =>
        (fX2_compareWithJoined b9 p1 u7).bind fun u10 =>
        if p2 = 0 then
          (gfR u10 (some t0) 10 5).bind fun v12 =>
          (gfI u10 v12 2 0).bind fun v13 =>
          some (Int32.toInt64 v13, u10)
        else if p2 = 1 then
            (gfR u10 (some t0) 10 5).bind fun v15 =>
            (gfI u10 v15 2 1).bind fun v16 =>
            some (Int32.toInt64 v16, u10)
          else 
            (gfR u10 (some t0) 10 5).bind fun v17 =>
            (gfI u10 v17 2 0).bind fun v18 =>
            (gfR u10 (some t0) 10 5).bind fun v19 =>
            (gfI u10 v19 2 1).bind fun v20 =>
            (fX2_rowsWithHeads v18 v20 u10).bind fun v21 =>
            some (v21, u10)
abbrev iX10_tie : MI := (yX10_tie, cX10_tie, 4, (some .int))
def fX10_tie (t0 : Nat) (p1 : Int32) (p2 : Int32) (p3 : Int32) (u : Mem) : Option (Int32 × Mem) :=
  (gfR u (some t0) 10 3).bind fun v1 =>
  (chk u v1 0).bind fun b2 =>
  (fX0_hasQuestion b2 p1 u).bind fun v3 =>
  if v3 = 0 then
    some ((-2 : Int32), u)
  else
    (gfR u (some t0) 10 3).bind fun v5 =>
    (chk u v5 0).bind fun b6 =>
    (fX0_hasQuestion b6 p2 u).bind fun v7 =>
    if v7 = 0 then
      some ((-2 : Int32), u)
    else
      if p1 = p2 then
        some ((-2 : Int32), u)
      else
        if p3 < 0 then
          some ((-2 : Int32), u)
        else
          if (2 : Int32) < p3 then
            some ((-2 : Int32), u)
          else
            (gfR u (some t0) 10 6).bind fun v12 =>
            (gfI u v12 9 3).bind fun v13 =>
            if v13 < (30 : Int32) then
              (gfR u (some t0) 10 6).bind fun v15 =>
              (chk u v15 9).bind fun b16 =>
              bnd2 (fX9_append b16 p1 p2 p3 u) fun v17 u18 =>
              some (v17, u18)
            else
              some ((-3 : Int32), u)
abbrev iX10_pumps : MI := (yX10_pumps, cX10_pumps, 3, (some .int))
def fX10_pumps (t0 : Nat) (p1 : Int32) (p2 : Int32) (u : Mem) : Option (Int32) :=
  (fX10_isGuesser p1 u).bind fun v1 =>
  if v1 = 0 then
    some (-2 : Int32)
  else
    (fX10_isDay p2 u).bind fun v3 =>
    if v3 = 0 then
      some (-2 : Int32)
    else
      (gfR u (some t0) 10 6).bind fun v5 =>
      (chk u v5 9).bind fun b6 =>
      (fX9_brokenBits b6 p1 p2 u).bind fun v7 =>
      some v7
abbrev iX10_mend : MI := (yX10_mend, cX10_mend, 4, (some .int))
def fX10_mend (t0 : Nat) (p1 : Int32) (p2 : Int32) (p3 : Int32) (u : Mem) : Option (Int32 × Mem) :=
  (fX10_isGuesser p1 u).bind fun v1 =>
  if v1 = 0 then
    some ((-2 : Int32), u)
  else
    (fX10_isDay p2 u).bind fun v3 =>
    if v3 = 0 then
      some ((-2 : Int32), u)
    else
      if p3 < (1 : Int32) then
        some ((-2 : Int32), u)
      else
        (gfR u (some t0) 10 3).bind fun v6 =>
        (gfI u v6 0 3).bind fun v7 =>
        if (p3 >>> (v7 &&& 31)) = 0 then
          (fJ6_bitCount_0f7a4 p3 u).bind fun v9 =>
          if (4 : Int32) < v9 then
            some ((-3 : Int32), u)
          else
            (gfR u (some t0) 10 7).bind fun v11 =>
            (chk u v11 4).bind fun b12 =>
            bnd2 (fX4_choose b12 p1 p2 p3 u) fun v13 u14 =>
            if v13 = 0 then
              some ((-4 : Int32), u14)
            else
              (gfR u14 (some t0) 10 7).bind fun v16 =>
              (chk u14 v16 4).bind fun b17 =>
              bnd2 (fX4_leastChange b17 u14) fun v18 u19 =>
              some (v18, u19)
        else
          some ((-2 : Int32), u)
abbrev iX10_mended : MI := (yX10_mended, cX10_mended, 2, (some .int))
def fX10_mended (t0 : Nat) (p1 : Int32) (u : Mem) : Option (Int32) :=
  (gfR u (some t0) 10 3).bind fun v1 =>
  (chk u v1 0).bind fun b2 =>
  (fX0_hasQuestion b2 p1 u).bind fun v3 =>
  if v3 = 0 then
    some (-1 : Int32)
  else
    (gfR u (some t0) 10 7).bind fun v5 =>
    (gfR u v5 4 0).bind fun v6 =>
    (alI u v6 20 p1).bind fun v7 =>
    some v7
abbrev iX10_about : MI := (yX10_about, cX10_about, 4, (some .int))
def fX10_about (t0 : Nat) (p1 : Int32) (p2 : Int32) (u : Mem) : Option (Int32) :=
  (gfR u (some t0) 10 3).bind fun v1 =>
  (chk u v1 0).bind fun b2 =>
  (fX0_hasQuestion b2 p1 u).bind fun v3 =>
  if v3 = 0 then
    some (-1 : Int32)
  else
    (gfR u (some t0) 10 3).bind fun v5 =>
    (gfR u v5 0 0).bind fun v6 =>
    (alR u v6 24 p1).bind fun v7 =>
    if p2 = 0 then
      (gfI u v7 5 0).bind fun v9 =>
      some v9
    else if p2 = 1 then
        (gfI u v7 5 1).bind fun v11 =>
        some v11
      else if p2 = 2 then
          (gfI u v7 5 2).bind fun v13 =>
          some v13
        else if p2 = 3 then
            (gfI u v7 5 3).bind fun v15 =>
            some v15
          else if p2 = 4 then
              (gfI u v7 5 4).bind fun v17 =>
              some v17
            else 
              some (-1 : Int32)
abbrev iX10_count : MI := (yX10_count, cX10_count, 2, (some .int))
def fX10_count (t0 : Nat) (p1 : Int32) (u : Mem) : Option (Int32 × Mem) :=
  if p1 = 0 then
    (gfR u (some t0) 10 3).bind fun v2 =>
    (gfI u v2 0 3).bind fun v3 =>
    some (v3, u)
  else if p1 = 1 then
      (gfR u (some t0) 10 3).bind fun v5 =>
      (gfI u v5 0 4).bind fun v6 =>
      some (v6, u)
    else if p1 = 2 then
        (gfR u (some t0) 10 6).bind fun v8 =>
        (gfI u v8 9 3).bind fun v9 =>
        some (v9, u)
      else if p1 = 3 then
          (gfR u (some t0) 10 0).bind fun v11 =>
          (gfI u v11 8 1).bind fun v12 =>
          some (v12, u)
        else if p1 = 4 then
            (gfR u (some t0) 10 4).bind fun v14 =>
            (chk u v14 1).bind fun b15 =>
            (fX1_refresh b15 u).bind fun u16 =>
            (gfR u16 (some t0) 10 4).bind fun v17 =>
            (chk u16 v17 1).bind fun b18 =>
            (fX1_guessersWithMean b18 u16).bind fun v19 =>
            some (v19, u16)
          else 
            some ((-1 : Int32), u)
theorem tX10_feed {l : Launch} {G : Gt} {d : Nat} {t0 : Nat} {p1 : Int32} {p2 : Int32} {p3 : Int32} {p4 : Int32} {p5 : Int32} {u : Mem} {y : Int32 × Mem} (h : fX10_feed t0 p1 p2 p3 p4 p5 u = some y) : Rn l G iX10_feed (d + 1) 0 [(0, rv (some t0)), (1, .int p1), (2, .int p2), (3, .int p3), (4, .int p4), (5, .int p5)] [] u (.returned (some (.int y.1))) y.2 := by
  unfold fX10_feed at h
  refine rn_aload_n (pc := 0) 0 dX10_feed_0 rfl rfl ?_
  obtain ⟨v1, hv1, h1⟩ := bnd_some h
  refine rn_getR (pc := 1) (k := 0) okX10 (by decide) tw_427 rfl dX10_feed_1 hv1 ?_
  obtain ⟨v2, hv2, h2⟩ := bnd_some h1
  refine rn_getI (pc := 4) (k := 1) okX8 (by decide) tw_106 rfl dX10_feed_4 hv2 ?_
  refine rn_bipush (pc := 7) (v := 20) dX10_feed_7 (by decide) ?_
  refine rn_iadd (pc := 9) dX10_feed_9 ?_
  refine rn_sipush (pc := 10) (v := 500) dX10_feed_10 (by decide) ?_
  rcases if_elim h2 with ⟨c3, h3⟩ | ⟨c3, h3⟩
  · refine rn_ile_f (pc := 13) 19 dX10_feed_13 (by decide) c3 ?_
    refine rn_bipush (pc := 16) (v := -3) dX10_feed_16 (by decide) ?_
    cases h3
    exact rn_iret (pc := 18) rfl dX10_feed_18
  · refine rn_ile_t (pc := 13) (tgt := 19) dX10_feed_13 (by decide) c3 ?_
    refine rn_aload_n (pc := 19) 0 dX10_feed_19 rfl rfl ?_
    obtain ⟨v4, hv4, h4⟩ := bnd_some h3
    refine rn_getR (pc := 20) (k := 0) okX10 (by decide) tw_427 rfl dX10_feed_20 hv4 ?_
    refine rn_iload_n (pc := 23) 1 dX10_feed_23 rfl rfl ?_
    obtain ⟨b5, hb5, h5⟩ := bnd_some h4
    obtain ⟨qb5, kb5⟩ := chk_elim hb5
    subst qb5
    obtain ⟨u6, hu6, h6⟩ := bnd_some h5
    refine rn_callV (pc := 24) (n := 1) (As := [.int p1]) (rest := []) (eX8_append (d := d + 0) hu6) (by omega) okX8 kb5 tw_459 tw_69 tw_456 tw_457 tw_458 (by decide +kernel) rfl (Nat.le_of_ble_eq_true rfl) dX10_feed_24 rfl ?_
    refine rn_aload_n (pc := 27) 0 dX10_feed_27 rfl rfl ?_
    obtain ⟨v7, hv7, h7⟩ := bnd_some h6
    refine rn_getR (pc := 28) (k := 0) okX10 (by decide) tw_427 rfl dX10_feed_28 hv7 ?_
    refine rn_iload_n (pc := 31) 2 dX10_feed_31 rfl rfl ?_
    obtain ⟨b8, hb8, h8⟩ := bnd_some h7
    obtain ⟨qb8, kb8⟩ := chk_elim hb8
    subst qb8
    obtain ⟨u9, hu9, h9⟩ := bnd_some h8
    refine rn_callV (pc := 32) (n := 1) (As := [.int p2]) (rest := []) (eX8_append (d := d + 0) hu9) (by omega) okX8 kb8 tw_459 tw_69 tw_456 tw_457 tw_458 (by decide +kernel) rfl (Nat.le_of_ble_eq_true rfl) dX10_feed_32 rfl ?_
    refine rn_aload_n (pc := 35) 0 dX10_feed_35 rfl rfl ?_
    obtain ⟨v10, hv10, h10⟩ := bnd_some h9
    refine rn_getR (pc := 36) (k := 0) okX10 (by decide) tw_427 rfl dX10_feed_36 hv10 ?_
    refine rn_iload_n (pc := 39) 3 dX10_feed_39 rfl rfl ?_
    obtain ⟨b11, hb11, h11⟩ := bnd_some h10
    obtain ⟨qb11, kb11⟩ := chk_elim hb11
    subst qb11
    obtain ⟨u12, hu12, h12⟩ := bnd_some h11
    refine rn_callV (pc := 40) (n := 1) (As := [.int p3]) (rest := []) (eX8_append (d := d + 0) hu12) (by omega) okX8 kb11 tw_459 tw_69 tw_456 tw_457 tw_458 (by decide +kernel) rfl (Nat.le_of_ble_eq_true rfl) dX10_feed_40 rfl ?_
    refine rn_aload_n (pc := 43) 0 dX10_feed_43 rfl rfl ?_
    obtain ⟨v13, hv13, h13⟩ := bnd_some h12
    refine rn_getR (pc := 44) (k := 0) okX10 (by decide) tw_427 rfl dX10_feed_44 hv13 ?_
    refine rn_iload (pc := 47) 4 dX10_feed_47 rfl ?_
    obtain ⟨b14, hb14, h14⟩ := bnd_some h13
    obtain ⟨qb14, kb14⟩ := chk_elim hb14
    subst qb14
    obtain ⟨u15, hu15, h15⟩ := bnd_some h14
    refine rn_callV (pc := 49) (n := 1) (As := [.int p4]) (rest := []) (eX8_append (d := d + 0) hu15) (by omega) okX8 kb14 tw_459 tw_69 tw_456 tw_457 tw_458 (by decide +kernel) rfl (Nat.le_of_ble_eq_true rfl) dX10_feed_49 rfl ?_
    refine rn_aload_n (pc := 52) 0 dX10_feed_52 rfl rfl ?_
    obtain ⟨v16, hv16, h16⟩ := bnd_some h15
    refine rn_getR (pc := 53) (k := 0) okX10 (by decide) tw_427 rfl dX10_feed_53 hv16 ?_
    refine rn_iload (pc := 56) 5 dX10_feed_56 rfl ?_
    obtain ⟨b17, hb17, h17⟩ := bnd_some h16
    obtain ⟨qb17, kb17⟩ := chk_elim hb17
    subst qb17
    obtain ⟨u18, hu18, h18⟩ := bnd_some h17
    refine rn_callV (pc := 58) (n := 1) (As := [.int p5]) (rest := []) (eX8_append (d := d + 0) hu18) (by omega) okX8 kb17 tw_459 tw_69 tw_456 tw_457 tw_458 (by decide +kernel) rfl (Nat.le_of_ble_eq_true rfl) dX10_feed_58 rfl ?_
    refine rn_aload_n (pc := 61) 0 dX10_feed_61 rfl rfl ?_
    obtain ⟨v19, hv19, h19⟩ := bnd_some h18
    refine rn_getR (pc := 62) (k := 0) okX10 (by decide) tw_427 rfl dX10_feed_62 hv19 ?_
    obtain ⟨v20, hv20, h20⟩ := bnd_some h19
    refine rn_getI (pc := 65) (k := 1) okX8 (by decide) tw_106 rfl dX10_feed_65 hv20 ?_
    cases h20
    exact rn_iret (pc := 68) rfl dX10_feed_68
theorem eX10_feed {l : Launch} {G : Gt} {d : Nat} {t0 : Nat} {p1 : Int32} {p2 : Int32} {p3 : Int32} {p4 : Int32} {p5 : Int32} {u : Mem} {y : Int32 × Mem} (h : fX10_feed t0 p1 p2 p3 p4 p5 u = some y) : Ex l G iX10_feed (d + 1) [rv (some t0), .int p1, .int p2, .int p3, .int p4, .int p5] u (.returned (some (.int y.1))) y.2 := Ex.of (by decide +kernel) (by decide) (Nat.le_of_ble_eq_true rfl) rfl (tX10_feed h)
theorem tX10_end {l : Launch} {G : Gt} {d : Nat} {t0 : Nat} {p1 : Int32} {u : Mem} {y : Int32 × Mem} (h : fX10_end t0 p1 u = some y) : Rn l G iX10_end d 0 [(0, rv (some t0)), (1, .int p1)] [] u (.returned (some (.int y.1))) y.2 := by
  unfold fX10_end at h
  refine rn_iload_n (pc := 0) 1 dX10_end_0 rfl rfl ?_
  rcases if_elim h with ⟨c1, h1⟩ | ⟨c1, h1⟩
  · refine rn_zlt_t (pc := 1) (tgt := 15) dX10_end_1 (by decide) c1 ?_
    refine rn_iconst (pc := 15) (v := -1) dX10_end_15 (by decide) ?_
    cases h1
    exact rn_iret (pc := 16) rfl dX10_end_16
  · refine rn_zlt_f (pc := 1) 15 dX10_end_1 (by decide) c1 ?_
    refine rn_iload_n (pc := 4) 1 dX10_end_4 rfl rfl ?_
    refine rn_aload_n (pc := 5) 0 dX10_end_5 rfl rfl ?_
    obtain ⟨v2, hv2, h2⟩ := bnd_some h1
    refine rn_getR (pc := 6) (k := 0) okX10 (by decide) tw_427 rfl dX10_end_6 hv2 ?_
    obtain ⟨v3, hv3, h3⟩ := bnd_some h2
    refine rn_getI (pc := 9) (k := 1) okX8 (by decide) tw_106 rfl dX10_end_9 hv3 ?_
    rcases if_elim h3 with ⟨c4, h4⟩ | ⟨c4, h4⟩
    · refine rn_ile_f (pc := 12) 17 dX10_end_12 (by decide) c4 ?_
      refine rn_iconst (pc := 15) (v := -1) dX10_end_15 (by decide) ?_
      cases h4
      exact rn_iret (pc := 16) rfl dX10_end_16
    · refine rn_ile_t (pc := 12) (tgt := 17) dX10_end_12 (by decide) c4 ?_
      refine rn_aload_n (pc := 17) 0 dX10_end_17 rfl rfl ?_
      obtain ⟨v5, hv5, h5⟩ := bnd_some h4
      refine rn_getR (pc := 18) (k := 0) okX10 (by decide) tw_427 rfl dX10_end_18 hv5 ?_
      refine rn_iload_n (pc := 21) 1 dX10_end_21 rfl rfl ?_
      obtain ⟨u6, hu6, h6⟩ := bnd_some h5
      refine rn_putI (pc := 22) (k := 1) okX8 (by decide) tw_106 (Or.inl rfl) (Or.inl rfl) dX10_end_22 hu6 ?_
      refine rn_iload_n (pc := 25) 1 dX10_end_25 rfl rfl ?_
      cases h6
      exact rn_iret (pc := 26) rfl dX10_end_26
theorem eX10_end {l : Launch} {G : Gt} {d : Nat} {t0 : Nat} {p1 : Int32} {u : Mem} {y : Int32 × Mem} (h : fX10_end t0 p1 u = some y) : Ex l G iX10_end d [rv (some t0), .int p1] u (.returned (some (.int y.1))) y.2 := Ex.of (by decide +kernel) (by decide) (Nat.le_of_ble_eq_true rfl) rfl (tX10_end h)
theorem tX10_rules {l : Launch} {G : Gt} {d : Nat} {t0 : Nat} {u : Mem} {y : Int32 × Mem} (h : fX10_rules t0 u = some y) : Rn l G iX10_rules (d + 9) 0 [(0, rv (some t0))] [] u (.returned (some (.int y.1))) y.2 := by
  unfold fX10_rules at h
  refine rn_aload_n (pc := 0) 0 dX10_rules_0 rfl rfl ?_
  obtain ⟨v1, hv1, h1⟩ := bnd_some h
  refine rn_getR (pc := 1) (k := 1) okX10 (by decide) tw_428 rfl dX10_rules_1 hv1 ?_
  obtain ⟨b2, hb2, h2⟩ := bnd_some h1
  obtain ⟨qb2, kb2⟩ := chk_elim hb2
  subst qb2
  obtain ⟨v3, u4, hv3, h3⟩ := bnd2_some h2
  refine rn_callV (pc := 4) (n := 0) (As := []) (rest := []) (eX6_readText (d := d + 0) hv3) (by omega) okX6 kb2 tw_471 tw_70 tw_468 tw_469 tw_470 (by decide +kernel) rfl (Nat.le_of_ble_eq_true rfl) dX10_rules_4 rfl ?_
  refine rn_istore_n (pc := 7) (lv' := [(1, .int v3), (0, rv (some t0))]) dX10_rules_7 rfl (by decide) rfl ?_
  refine rn_aload_n (pc := 8) 1 dX10_rules_8 rfl rfl ?_
  obtain ⟨v5, hv5, h4⟩ := bnd_some h3
  refine rn_getR (pc := 9) (k := 0) okX10 (by decide) tw_427 rfl dX10_rules_9 hv5 ?_
  refine rn_iconst (pc := 12) (v := 0) dX10_rules_12 (by decide) ?_
  obtain ⟨u6, hu6, h5⟩ := bnd_some h4
  refine rn_putI (pc := 13) (k := 1) okX8 (by decide) tw_106 (Or.inl rfl) (Or.inl rfl) dX10_rules_13 hu6 ?_
  refine rn_iload_n (pc := 16) 0 dX10_rules_16 rfl rfl ?_
  refine rn_iconst (pc := 17) (v := -1) dX10_rules_17 (by decide) ?_
  rcases if_elim h5 with ⟨c7, h6⟩ | ⟨c7, h6⟩
  · refine rn_ieq_t (pc := 18) (tgt := 48) dX10_rules_18 (by decide) c7 ?_
    refine rn_iload_n (pc := 48) 0 dX10_rules_48 rfl rfl ?_
    cases h6
    exact rn_iret (pc := 49) rfl dX10_rules_49
  · refine rn_ieq_f (pc := 18) 48 dX10_rules_18 (by decide) c7 ?_
    refine rn_aload_n (pc := 21) 1 dX10_rules_21 rfl rfl ?_
    obtain ⟨v8, hv8, h7⟩ := bnd_some h6
    refine rn_getR (pc := 22) (k := 2) okX10 (by decide) tw_429 rfl dX10_rules_22 hv8 ?_
    refine rn_aload_n (pc := 25) 1 dX10_rules_25 rfl rfl ?_
    obtain ⟨v9, hv9, h8⟩ := bnd_some h7
    refine rn_getR (pc := 26) (k := 1) okX10 (by decide) tw_428 rfl dX10_rules_26 hv9 ?_
    obtain ⟨v10, hv10, h9⟩ := bnd_some h8
    refine rn_getR (pc := 29) (k := 0) okX6 (by decide) tw_174 rfl dX10_rules_29 hv10 ?_
    obtain ⟨b11, hb11, h10⟩ := bnd_some h9
    obtain ⟨qb11, kb11⟩ := chk_elim hb11
    subst qb11
    obtain ⟨u12, hu12, h11⟩ := bnd_some h10
    refine rn_callV (pc := 32) (n := 1) (As := [rv v10]) (rest := []) (eX7_copyFrom (d := d + 7) hu12) (by omega) okX7 kb11 tw_558 tw_71 tw_555 tw_556 tw_557 (by decide +kernel) rfl (Nat.le_of_ble_eq_true rfl) dX10_rules_32 rfl ?_
    refine rn_aload_n (pc := 35) 1 dX10_rules_35 rfl rfl ?_
    obtain ⟨v13, hv13, h12⟩ := bnd_some h11
    refine rn_getR (pc := 36) (k := 3) okX10 (by decide) tw_430 rfl dX10_rules_36 hv13 ?_
    refine rn_dup (pc := 39) dX10_rules_39 (rv_cat _) ?_
    obtain ⟨v14, hv14, h13⟩ := bnd_some h12
    refine rn_getI (pc := 40) (k := 5) okX0 (by decide) tw_274 rfl dX10_rules_40 hv14 ?_
    refine rn_iconst (pc := 43) (v := 1) dX10_rules_43 (by decide) ?_
    refine rn_iadd (pc := 44) dX10_rules_44 ?_
    obtain ⟨u15, hu15, h14⟩ := bnd_some h13
    refine rn_putI (pc := 45) (k := 5) okX0 (by decide) tw_274 (Or.inl rfl) (Or.inl rfl) dX10_rules_45 hu15 ?_
    refine rn_iload_n (pc := 48) 0 dX10_rules_48 rfl rfl ?_
    cases h14
    exact rn_iret (pc := 49) rfl dX10_rules_49
theorem eX10_rules {l : Launch} {G : Gt} {d : Nat} {t0 : Nat} {u : Mem} {y : Int32 × Mem} (h : fX10_rules t0 u = some y) : Ex l G iX10_rules (d + 9) [rv (some t0)] u (.returned (some (.int y.1))) y.2 := Ex.of (by decide +kernel) (by decide) (Nat.le_of_ble_eq_true rfl) rfl (tX10_rules h)
theorem tX10_fault {l : Launch} {G : Gt} {d : Nat} {t0 : Nat} {p1 : Int32} {u : Mem} {y : Int32} (h : fX10_fault t0 p1 u = some y) : Rn l G iX10_fault d 0 [(0, rv (some t0)), (1, .int p1)] [] u (.returned (some (.int y))) u := by
  unfold fX10_fault at h
  refine rn_iload_n (pc := 0) 1 dX10_fault_0 rfl rfl ?_
  rcases if_elim h with ⟨c1, h1⟩ | ⟨c1, h1⟩
  · refine rn_lsw (pc := 1) (tgt := 28) (off := 27) dX10_fault_1 (by decide) (by rw [c1]; rfl) (by decide) ?_
    refine rn_aload_n (pc := 28) 0 dX10_fault_28 rfl rfl ?_
    obtain ⟨v2, hv2, h2⟩ := bnd_some h1
    refine rn_getR (pc := 29) (k := 1) okX10 (by decide) tw_428 rfl dX10_fault_29 hv2 ?_
    obtain ⟨v3, hv3, h3⟩ := bnd_some h2
    refine rn_getI (pc := 32) (k := 1) okX6 (by decide) tw_176 rfl dX10_fault_32 hv3 ?_
    cases h3
    exact rn_iret (pc := 35) rfl dX10_fault_35
  · skip
    rcases if_elim h1 with ⟨c4, h4⟩ | ⟨c4, h4⟩
    · refine rn_lsw (pc := 1) (tgt := 36) (off := 35) dX10_fault_1 (by decide) (by rw [c4]; rfl) (by decide) ?_
      refine rn_aload_n (pc := 36) 0 dX10_fault_36 rfl rfl ?_
      obtain ⟨v5, hv5, h5⟩ := bnd_some h4
      refine rn_getR (pc := 37) (k := 1) okX10 (by decide) tw_428 rfl dX10_fault_37 hv5 ?_
      obtain ⟨v6, hv6, h6⟩ := bnd_some h5
      refine rn_getI (pc := 40) (k := 2) okX6 (by decide) tw_178 rfl dX10_fault_40 hv6 ?_
      cases h6
      exact rn_iret (pc := 43) rfl dX10_fault_43
    · skip
      refine rn_lsw (pc := 1) (tgt := 44) (off := 43) dX10_fault_1 (by decide) (by rw [lv_osw (k := 0) c1 (by decide), lv_osw (k := 1) c4 (by decide)]; rfl) (by decide) ?_
      refine rn_iconst (pc := 44) (v := -1) dX10_fault_44 (by decide) ?_
      cases h4
      exact rn_iret (pc := 45) rfl dX10_fault_45
theorem eX10_fault {l : Launch} {G : Gt} {d : Nat} {t0 : Nat} {p1 : Int32} {u : Mem} {y : Int32} (h : fX10_fault t0 p1 u = some y) : Ex l G iX10_fault d [rv (some t0), .int p1] u (.returned (some (.int y))) u := Ex.of (by decide +kernel) (by decide) (Nat.le_of_ble_eq_true rfl) rfl (tX10_fault h)
theorem jtX10_rule_50 {l : Launch} {G : Gt} {d : Nat} {t0 : Nat} {p1 : Int32} {u : Mem} {y : Int32} (h : jX10_rule_50 t0 p1 u = some y) : Rn l G iX10_rule d 50 [(0, rv (some t0)), (1, .int p1)] [] u (.returned (some (.int y))) u := by
  unfold jX10_rule_50 at h
  refine rn_iload_n (pc := 50) 1 dX10_rule_50 rfl rfl ?_
  rcases if_elim h with ⟨c3, h1⟩ | ⟨c3, h1⟩
  · refine rn_tsw_in (pc := 51) (tgt := 84) (off := 33) 0 dX10_rule_51 c3 (by decide) (by decide) ?_
    refine rn_aload_n (pc := 84) 0 dX10_rule_84 rfl rfl ?_
    obtain ⟨v4, hv4, h2⟩ := bnd_some h1
    refine rn_getR (pc := 85) (k := 2) okX10 (by decide) tw_429 rfl dX10_rule_85 hv4 ?_
    obtain ⟨v5, hv5, h3⟩ := bnd_some h2
    refine rn_getI (pc := 88) (k := 2) okX7 (by decide) tw_140 rfl dX10_rule_88 hv5 ?_
    cases h3
    exact rn_iret (pc := 91) rfl dX10_rule_91
  · skip
    rcases if_elim h1 with ⟨c6, h4⟩ | ⟨c6, h4⟩
    · refine rn_tsw_in (pc := 51) (tgt := 92) (off := 41) 1 dX10_rule_51 c6 (by decide) (by decide) ?_
      refine rn_aload_n (pc := 92) 0 dX10_rule_92 rfl rfl ?_
      obtain ⟨v7, hv7, h5⟩ := bnd_some h4
      refine rn_getR (pc := 93) (k := 2) okX10 (by decide) tw_429 rfl dX10_rule_93 hv7 ?_
      obtain ⟨v8, hv8, h6⟩ := bnd_some h5
      refine rn_getI (pc := 96) (k := 3) okX7 (by decide) tw_143 rfl dX10_rule_96 hv8 ?_
      cases h6
      exact rn_iret (pc := 99) rfl dX10_rule_99
    · skip
      rcases if_elim h4 with ⟨c9, h7⟩ | ⟨c9, h7⟩
      · refine rn_tsw_in (pc := 51) (tgt := 100) (off := 49) 2 dX10_rule_51 c9 (by decide) (by decide) ?_
        refine rn_aload_n (pc := 100) 0 dX10_rule_100 rfl rfl ?_
        obtain ⟨v10, hv10, h8⟩ := bnd_some h7
        refine rn_getR (pc := 101) (k := 2) okX10 (by decide) tw_429 rfl dX10_rule_101 hv10 ?_
        obtain ⟨v11, hv11, h9⟩ := bnd_some h8
        refine rn_getI (pc := 104) (k := 4) okX7 (by decide) tw_147 rfl dX10_rule_104 hv11 ?_
        cases h9
        exact rn_iret (pc := 107) rfl dX10_rule_107
      · skip
        rcases if_elim h7 with ⟨c12, h10⟩ | ⟨c12, h10⟩
        · refine rn_tsw_in (pc := 51) (tgt := 108) (off := 57) 3 dX10_rule_51 c12 (by decide) (by decide) ?_
          refine rn_aload_n (pc := 108) 0 dX10_rule_108 rfl rfl ?_
          obtain ⟨v13, hv13, h11⟩ := bnd_some h10
          refine rn_getR (pc := 109) (k := 2) okX10 (by decide) tw_429 rfl dX10_rule_109 hv13 ?_
          obtain ⟨v14, hv14, h12⟩ := bnd_some h11
          refine rn_getI (pc := 112) (k := 5) okX7 (by decide) tw_151 rfl dX10_rule_112 hv14 ?_
          cases h12
          exact rn_iret (pc := 115) rfl dX10_rule_115
        · skip
          rcases if_elim h10 with ⟨c15, h13⟩ | ⟨c15, h13⟩
          · refine rn_tsw_in (pc := 51) (tgt := 116) (off := 65) 4 dX10_rule_51 c15 (by decide) (by decide) ?_
            refine rn_aload_n (pc := 116) 0 dX10_rule_116 rfl rfl ?_
            obtain ⟨v16, hv16, h14⟩ := bnd_some h13
            refine rn_getR (pc := 117) (k := 2) okX10 (by decide) tw_429 rfl dX10_rule_117 hv16 ?_
            obtain ⟨v17, hv17, h15⟩ := bnd_some h14
            refine rn_getI (pc := 120) (k := 6) okX7 (by decide) tw_155 rfl dX10_rule_120 hv17 ?_
            cases h15
            exact rn_iret (pc := 123) rfl dX10_rule_123
          · skip
            refine rn_tsw_out (pc := 51) (tgt := 124) dX10_rule_51 (sw_out (n := 4) (lt_s (lt_s (lt_s (lt_s (lt_s (lt_0) c3) c6) c9) c12) c15)) (by decide) ?_
            refine rn_bipush (pc := 124) (v := -9) dX10_rule_124 (by decide) ?_
            cases h13
            exact rn_iret (pc := 126) rfl dX10_rule_126
theorem jtX10_rule_25 {l : Launch} {G : Gt} {d : Nat} {t0 : Nat} {p1 : Int32} {u : Mem} {y : Int32} (h : jX10_rule_25 t0 p1 u = some y) : Rn l G iX10_rule d 25 [(0, rv (some t0)), (1, .int p1)] [] u (.returned (some (.int y))) u := by
  unfold jX10_rule_25 at h
  refine rn_iload_n (pc := 25) 1 dX10_rule_25 rfl rfl ?_
  refine rn_bipush (pc := 26) (v := 30) dX10_rule_26 (by decide) ?_
  rcases if_elim h with ⟨c2, h1⟩ | ⟨c2, h1⟩
  · refine rn_ilt_t (pc := 28) (tgt := 50) dX10_rule_28 (by decide) c2 ?_
    exact rn_sub [0, 1] rfl (jtX10_rule_50 h1)
  · refine rn_ilt_f (pc := 28) 50 dX10_rule_28 (by decide) c2 ?_
    refine rn_iload_n (pc := 31) 1 dX10_rule_31 rfl rfl ?_
    refine rn_bipush (pc := 32) (v := 41) dX10_rule_32 (by decide) ?_
    rcases if_elim h1 with ⟨c18, h2⟩ | ⟨c18, h2⟩
    · refine rn_ige_f (pc := 34) 50 dX10_rule_34 (by decide) c18 ?_
      refine rn_aload_n (pc := 37) 0 dX10_rule_37 rfl rfl ?_
      obtain ⟨v19, hv19, h3⟩ := bnd_some h2
      refine rn_getR (pc := 38) (k := 2) okX10 (by decide) tw_429 rfl dX10_rule_38 hv19 ?_
      obtain ⟨v20, hv20, h4⟩ := bnd_some h3
      refine rn_getR (pc := 41) (k := 1) okX7 (by decide) tw_136 rfl dX10_rule_41 hv20 ?_
      refine rn_iload_n (pc := 44) 1 dX10_rule_44 rfl rfl ?_
      refine rn_bipush (pc := 45) (v := 30) dX10_rule_45 (by decide) ?_
      refine rn_isub (pc := 47) dX10_rule_47 ?_
      obtain ⟨v21, hv21, h5⟩ := bnd_some h4
      refine rn_iald (pc := 48) dX10_rule_48 hv21 ?_
      cases h5
      exact rn_iret (pc := 49) rfl dX10_rule_49
    · refine rn_ige_t (pc := 34) (tgt := 50) dX10_rule_34 (by decide) c18 ?_
      exact rn_sub [0, 1] rfl (jtX10_rule_50 h2)
theorem tX10_rule {l : Launch} {G : Gt} {d : Nat} {t0 : Nat} {p1 : Int32} {u : Mem} {y : Int32} (h : fX10_rule t0 p1 u = some y) : Rn l G iX10_rule d 0 [(0, rv (some t0)), (1, .int p1)] [] u (.returned (some (.int y))) u := by
  unfold fX10_rule at h
  refine rn_iload_n (pc := 0) 1 dX10_rule_0 rfl rfl ?_
  refine rn_bipush (pc := 1) (v := 10) dX10_rule_1 (by decide) ?_
  rcases if_elim h with ⟨c1, h1⟩ | ⟨c1, h1⟩
  · refine rn_ilt_t (pc := 3) (tgt := 25) dX10_rule_3 (by decide) c1 ?_
    exact rn_sub [0, 1] rfl (jtX10_rule_25 h1)
  · refine rn_ilt_f (pc := 3) 25 dX10_rule_3 (by decide) c1 ?_
    refine rn_iload_n (pc := 6) 1 dX10_rule_6 rfl rfl ?_
    refine rn_bipush (pc := 7) (v := 21) dX10_rule_7 (by decide) ?_
    rcases if_elim h1 with ⟨c22, h2⟩ | ⟨c22, h2⟩
    · refine rn_ige_f (pc := 9) 25 dX10_rule_9 (by decide) c22 ?_
      refine rn_aload_n (pc := 12) 0 dX10_rule_12 rfl rfl ?_
      obtain ⟨v23, hv23, h3⟩ := bnd_some h2
      refine rn_getR (pc := 13) (k := 2) okX10 (by decide) tw_429 rfl dX10_rule_13 hv23 ?_
      obtain ⟨v24, hv24, h4⟩ := bnd_some h3
      refine rn_getR (pc := 16) (k := 0) okX7 (by decide) tw_132 rfl dX10_rule_16 hv24 ?_
      refine rn_iload_n (pc := 19) 1 dX10_rule_19 rfl rfl ?_
      refine rn_bipush (pc := 20) (v := 10) dX10_rule_20 (by decide) ?_
      refine rn_isub (pc := 22) dX10_rule_22 ?_
      obtain ⟨v25, hv25, h5⟩ := bnd_some h4
      refine rn_iald (pc := 23) dX10_rule_23 hv25 ?_
      cases h5
      exact rn_iret (pc := 24) rfl dX10_rule_24
    · refine rn_ige_t (pc := 9) (tgt := 25) dX10_rule_9 (by decide) c22 ?_
      exact rn_sub [0, 1] rfl (jtX10_rule_25 h2)
theorem eX10_rule {l : Launch} {G : Gt} {d : Nat} {t0 : Nat} {p1 : Int32} {u : Mem} {y : Int32} (h : fX10_rule t0 p1 u = some y) : Ex l G iX10_rule d [rv (some t0), .int p1] u (.returned (some (.int y))) u := Ex.of (by decide +kernel) (by decide) (Nat.le_of_ble_eq_true rfl) rfl (tX10_rule h)
theorem tX10_isDay {l : Launch} {G : Gt} {d : Nat} {p0 : Int32} {u : Mem} {y : Int32} (h : fX10_isDay p0 u = some y) : Rn l G iX10_isDay d 0 [(0, .int p0)] [] u (.returned (some (.int y))) u := by
  unfold fX10_isDay at h
  refine rn_iload_n (pc := 0) 0 dX10_isDay_0 rfl rfl ?_
  rcases if_elim h with ⟨c1, h1⟩ | ⟨c1, h1⟩
  · refine rn_zlt_t (pc := 1) (tgt := 15) dX10_isDay_1 (by decide) c1 ?_
    refine rn_iconst (pc := 15) (v := 0) dX10_isDay_15 (by decide) ?_
    cases h1
    exact rn_zret (pc := 16) (by decide) rfl dX10_isDay_16
  · refine rn_zlt_f (pc := 1) 15 dX10_isDay_1 (by decide) c1 ?_
    refine rn_iload_n (pc := 4) 0 dX10_isDay_4 rfl rfl ?_
    refine rn_sipush (pc := 5) (v := 1000) dX10_isDay_5 (by decide) ?_
    rcases if_elim h1 with ⟨c2, h2⟩ | ⟨c2, h2⟩
    · refine rn_ige_f (pc := 8) 15 dX10_isDay_8 (by decide) c2 ?_
      refine rn_iconst (pc := 11) (v := 1) dX10_isDay_11 (by decide) ?_
      refine rn_goto (pc := 12) (tgt := 16) dX10_isDay_12 (by decide) ?_
      cases h2
      exact rn_zret (pc := 16) (by decide) rfl dX10_isDay_16
    · refine rn_ige_t (pc := 8) (tgt := 15) dX10_isDay_8 (by decide) c2 ?_
      refine rn_iconst (pc := 15) (v := 0) dX10_isDay_15 (by decide) ?_
      cases h2
      exact rn_zret (pc := 16) (by decide) rfl dX10_isDay_16
theorem eX10_isDay {l : Launch} {G : Gt} {d : Nat} {p0 : Int32} {u : Mem} {y : Int32} (h : fX10_isDay p0 u = some y) : Ex l G iX10_isDay d [.int p0] u (.returned (some (.int y))) u := Ex.of (by decide +kernel) (by decide) (Nat.le_of_ble_eq_true rfl) rfl (tX10_isDay h)
theorem tX10_question {l : Launch} {G : Gt} {d : Nat} {t0 : Nat} {p1 : Int32} {p2 : Int32} {u : Mem} {y : Int32 × Mem} (h : fX10_question t0 p1 p2 u = some y) : Rn l G iX10_question (d + 1) 0 [(0, rv (some t0)), (1, .int p1), (2, .int p2)] [] u (.returned (some (.int y.1))) y.2 := by
  unfold fX10_question at h
  refine rn_iload_n (pc := 0) 1 dX10_question_0 rfl rfl ?_
  obtain ⟨v1, hv1, h1⟩ := bnd_some h
  refine rn_callS (pc := 1) (n := 1) (As := [.int p1]) (rest := []) (eX10_isDay (d := d + 0) hv1) (by omega) tw_576 tw_68 tw_574 tw_575 (by decide +kernel) rfl (Nat.le_of_ble_eq_true rfl) dX10_question_1 rfl ?_
  rcases if_elim h1 with ⟨c2, h2⟩ | ⟨c2, h2⟩
  · refine rn_zeq_t (pc := 4) (tgt := 27) dX10_question_4 (by decide) c2 ?_
    refine rn_bipush (pc := 27) (v := -2) dX10_question_27 (by decide) ?_
    cases h2
    exact rn_iret (pc := 29) rfl dX10_question_29
  · refine rn_zeq_f (pc := 4) 27 dX10_question_4 (by decide) c2 ?_
    refine rn_iload_n (pc := 7) 2 dX10_question_7 rfl rfl ?_
    obtain ⟨v3, hv3, h3⟩ := bnd_some h2
    refine rn_callS (pc := 8) (n := 1) (As := [.int p2]) (rest := []) (eX10_isDay (d := d + 0) hv3) (by omega) tw_576 tw_68 tw_574 tw_575 (by decide +kernel) rfl (Nat.le_of_ble_eq_true rfl) dX10_question_8 rfl ?_
    rcases if_elim h3 with ⟨c4, h4⟩ | ⟨c4, h4⟩
    · refine rn_zeq_t (pc := 11) (tgt := 27) dX10_question_11 (by decide) c4 ?_
      refine rn_bipush (pc := 27) (v := -2) dX10_question_27 (by decide) ?_
      cases h4
      exact rn_iret (pc := 29) rfl dX10_question_29
    · refine rn_zeq_f (pc := 11) 27 dX10_question_11 (by decide) c4 ?_
      refine rn_iload_n (pc := 14) 2 dX10_question_14 rfl rfl ?_
      refine rn_iload_n (pc := 15) 1 dX10_question_15 rfl rfl ?_
      rcases if_elim h4 with ⟨c5, h5⟩ | ⟨c5, h5⟩
      · refine rn_ilt_t (pc := 16) (tgt := 27) dX10_question_16 (by decide) c5 ?_
        refine rn_bipush (pc := 27) (v := -2) dX10_question_27 (by decide) ?_
        cases h5
        exact rn_iret (pc := 29) rfl dX10_question_29
      · refine rn_ilt_f (pc := 16) 27 dX10_question_16 (by decide) c5 ?_
        refine rn_iload_n (pc := 19) 2 dX10_question_19 rfl rfl ?_
        refine rn_iload_n (pc := 20) 1 dX10_question_20 rfl rfl ?_
        refine rn_isub (pc := 21) dX10_question_21 ?_
        refine rn_bipush (pc := 22) (v := 60) dX10_question_22 (by decide) ?_
        rcases if_elim h5 with ⟨c6, h6⟩ | ⟨c6, h6⟩
        · refine rn_ilt_t (pc := 24) (tgt := 30) dX10_question_24 (by decide) c6 ?_
          refine rn_aload_n (pc := 30) 0 dX10_question_30 rfl rfl ?_
          obtain ⟨v7, hv7, h7⟩ := bnd_some h6
          refine rn_getR (pc := 31) (k := 3) okX10 (by decide) tw_430 rfl dX10_question_31 hv7 ?_
          obtain ⟨v8, hv8, h8⟩ := bnd_some h7
          refine rn_getI (pc := 34) (k := 3) okX0 (by decide) tw_267 rfl dX10_question_34 hv8 ?_
          refine rn_bipush (pc := 37) (v := 20) dX10_question_37 (by decide) ?_
          rcases if_elim h8 with ⟨c9, h9⟩ | ⟨c9, h9⟩
          · refine rn_ilt_t (pc := 39) (tgt := 45) dX10_question_39 (by decide) c9 ?_
            refine rn_aload_n (pc := 45) 0 dX10_question_45 rfl rfl ?_
            obtain ⟨v10, hv10, h10⟩ := bnd_some h9
            refine rn_getR (pc := 46) (k := 3) okX10 (by decide) tw_430 rfl dX10_question_46 hv10 ?_
            refine rn_iload_n (pc := 49) 1 dX10_question_49 rfl rfl ?_
            refine rn_iload_n (pc := 50) 2 dX10_question_50 rfl rfl ?_
            obtain ⟨b11, hb11, h11⟩ := bnd_some h10
            obtain ⟨qb11, kb11⟩ := chk_elim hb11
            subst qb11
            obtain ⟨v12, u13, hv12, h12⟩ := bnd2_some h11
            refine rn_callV (pc := 51) (n := 2) (As := [.int p1, .int p2]) (rest := []) (eX0_addQuestion (d := d + 0) hv12) (by omega) okX0 kb11 tw_580 tw_72 tw_577 tw_578 tw_579 (by decide +kernel) rfl (Nat.le_of_ble_eq_true rfl) dX10_question_51 rfl ?_
            cases h12
            exact rn_iret (pc := 54) rfl dX10_question_54
          · refine rn_ilt_f (pc := 39) 45 dX10_question_39 (by decide) c9 ?_
            refine rn_bipush (pc := 42) (v := -3) dX10_question_42 (by decide) ?_
            cases h9
            exact rn_iret (pc := 44) rfl dX10_question_44
        · refine rn_ilt_f (pc := 24) 30 dX10_question_24 (by decide) c6 ?_
          refine rn_bipush (pc := 27) (v := -2) dX10_question_27 (by decide) ?_
          cases h6
          exact rn_iret (pc := 29) rfl dX10_question_29
theorem eX10_question {l : Launch} {G : Gt} {d : Nat} {t0 : Nat} {p1 : Int32} {p2 : Int32} {u : Mem} {y : Int32 × Mem} (h : fX10_question t0 p1 p2 u = some y) : Ex l G iX10_question (d + 1) [rv (some t0), .int p1, .int p2] u (.returned (some (.int y.1))) y.2 := Ex.of (by decide +kernel) (by decide) (Nat.le_of_ble_eq_true rfl) rfl (tX10_question h)
theorem jtX10_tell_109 {l : Launch} {G : Gt} {d : Nat} {t0 : Nat} {p6 : Int32} {w0 : Int32} {w1 : Option Nat} {u : Mem} {y : Int32 × Mem} (h : jX10_tell_109 t0 p6 w0 w1 u = some y) : Rn l G iX10_tell (d + 1) 109 [(0, rv (some t0)), (6, .int p6)] [.int w0, rv w1] u (.returned (some (.int y.1))) y.2 := by
  unfold jX10_tell_109 at h
  obtain ⟨u16, hu16, h1⟩ := bnd_some h
  refine rn_putI (pc := 109) (k := 3) okX5 (by decide) tw_241 (Or.inl rfl) (Or.inl rfl) dX10_tell_109 hu16 ?_
  refine rn_aload_n (pc := 112) 0 dX10_tell_112 rfl rfl ?_
  obtain ⟨v17, hv17, h2⟩ := bnd_some h1
  refine rn_getR (pc := 113) (k := 3) okX10 (by decide) tw_430 rfl dX10_tell_113 hv17 ?_
  refine rn_dup (pc := 116) dX10_tell_116 (rv_cat _) ?_
  obtain ⟨v18, hv18, h3⟩ := bnd_some h2
  refine rn_getI (pc := 117) (k := 5) okX0 (by decide) tw_274 rfl dX10_tell_117 hv18 ?_
  refine rn_iconst (pc := 120) (v := 1) dX10_tell_120 (by decide) ?_
  refine rn_iadd (pc := 121) dX10_tell_121 ?_
  obtain ⟨u19, hu19, h4⟩ := bnd_some h3
  refine rn_putI (pc := 122) (k := 5) okX0 (by decide) tw_274 (Or.inl rfl) (Or.inl rfl) dX10_tell_122 hu19 ?_
  refine rn_iload (pc := 125) 1 dX10_tell_125 rfl ?_
  cases h4
  exact rn_iret (pc := 127) rfl dX10_tell_127
theorem jtX10_tell_72 {l : Launch} {G : Gt} {d : Nat} {t0 : Nat} {p2 : Int32} {p3 : Int32} {p4 : Option Nat} {p5 : Int32} {u : Mem} {y : Int32 × Mem} (h : jX10_tell_72 t0 p2 p3 p4 p5 u = some y) : Rn l G iX10_tell (d + 1) 72 [(0, rv (some t0)), (2, .int p2), (3, .int p3), (4, rv p4), (5, .int p5)] [] u (.returned (some (.int y.1))) y.2 := by
  unfold jX10_tell_72 at h
  refine rn_iload_n (pc := 72) 1 dX10_tell_72 rfl rfl ?_
  rcases if_elim h with ⟨c11, h1⟩ | ⟨c11, h1⟩
  · refine rn_zlt_t (pc := 73) (tgt := 81) dX10_tell_73 (by decide) c11 ?_
    refine rn_bipush (pc := 81) (v := -2) dX10_tell_81 (by decide) ?_
    cases h1
    exact rn_iret (pc := 83) rfl dX10_tell_83
  · refine rn_zlt_f (pc := 73) 81 dX10_tell_73 (by decide) c11 ?_
    refine rn_iload_n (pc := 76) 1 dX10_tell_76 rfl rfl ?_
    refine rn_iconst (pc := 77) (v := 3) dX10_tell_77 (by decide) ?_
    rcases if_elim h1 with ⟨c12, h2⟩ | ⟨c12, h2⟩
    · refine rn_ile_f (pc := 78) 84 dX10_tell_78 (by decide) c12 ?_
      refine rn_bipush (pc := 81) (v := -2) dX10_tell_81 (by decide) ?_
      cases h2
      exact rn_iret (pc := 83) rfl dX10_tell_83
    · refine rn_ile_t (pc := 78) (tgt := 84) dX10_tell_78 (by decide) c12 ?_
      refine rn_aload (pc := 84) 3 dX10_tell_84 rfl ?_
      obtain ⟨v13, hv13, h3⟩ := bnd_some h2
      refine rn_getI (pc := 86) (k := 2) okX5 (by decide) tw_238 rfl dX10_tell_86 hv13 ?_
      refine rn_istore (pc := 89) (lv' := [(6, .int v13), (0, rv (some t0)), (2, .int p2), (3, .int p3), (4, rv p4), (5, .int p5)]) dX10_tell_89 (by decide) rfl ?_
      refine rn_aload (pc := 91) 4 dX10_tell_91 rfl ?_
      refine rn_iload_n (pc := 93) 2 dX10_tell_93 rfl rfl ?_
      obtain ⟨u14, hu14, h4⟩ := bnd_some h3
      refine rn_putI (pc := 94) (k := 2) okX5 (by decide) tw_238 (Or.inl rfl) (Or.inl rfl) dX10_tell_94 hu14 ?_
      refine rn_aload (pc := 97) 4 dX10_tell_97 rfl ?_
      refine rn_iload (pc := 99) 5 dX10_tell_99 rfl ?_
      rcases if_elim h4 with ⟨c15, h5⟩ | ⟨c15, h5⟩
      · refine rn_zeq_t (pc := 101) (tgt := 108) dX10_tell_101 (by decide) c15 ?_
        refine rn_iconst (pc := 108) (v := -1) dX10_tell_108 (by decide) ?_
        exact rn_sub [1, 0] rfl (jtX10_tell_109 h5)
      · refine rn_zeq_f (pc := 101) 108 dX10_tell_101 (by decide) c15 ?_
        refine rn_iload_n (pc := 104) 3 dX10_tell_104 rfl rfl ?_
        refine rn_goto (pc := 105) (tgt := 109) dX10_tell_105 (by decide) ?_
        exact rn_sub [1, 0] rfl (jtX10_tell_109 h5)
theorem jtX10_tell_39 {l : Launch} {G : Gt} {d : Nat} {t0 : Nat} {p2 : Int32} {p3 : Int32} {p4 : Option Nat} {w0 : Int32} {u : Mem} {y : Int32 × Mem} (h : jX10_tell_39 t0 p2 p3 p4 w0 u = some y) : Rn l G iX10_tell (d + 1) 39 [(0, rv (some t0)), (2, .int p2), (3, .int p3), (4, rv p4)] [.int w0] u (.returned (some (.int y.1))) y.2 := by
  unfold jX10_tell_39 at h
  refine rn_istore (pc := 39) (lv' := [(5, .int w0), (0, rv (some t0)), (2, .int p2), (3, .int p3), (4, rv p4)]) dX10_tell_39 (by decide) (by generalize p4 = q; cases q <;> rfl) ?_
  refine rn_iload (pc := 41) 0 dX10_tell_41 rfl ?_
  rcases if_elim h with ⟨c9, h1⟩ | ⟨c9, h1⟩
  · refine rn_zeq_t (pc := 43) (tgt := 65) dX10_tell_43 (by decide) c9 ?_
    refine rn_iload_n (pc := 65) 3 dX10_tell_65 rfl rfl ?_
    rcases if_elim h1 with ⟨c10, h2⟩ | ⟨c10, h2⟩
    · refine rn_zeq_t (pc := 66) (tgt := 72) dX10_tell_66 (by decide) c10 ?_
      exact rn_sub [1, 2, 3, 4, 0] rfl (jtX10_tell_72 h2)
    · refine rn_zeq_f (pc := 66) 72 dX10_tell_66 (by decide) c10 ?_
      refine rn_bipush (pc := 69) (v := -2) dX10_tell_69 (by decide) ?_
      cases h2
      exact rn_iret (pc := 71) rfl dX10_tell_71
  · refine rn_zeq_f (pc := 43) 65 dX10_tell_43 (by decide) c9 ?_
    refine rn_iload_n (pc := 46) 3 dX10_tell_46 rfl rfl ?_
    obtain ⟨v20, hv20, h3⟩ := bnd_some h1
    refine rn_callS (pc := 47) (n := 1) (As := [.int p3]) (rest := []) (eX10_isDay (d := d + 0) hv20) (by omega) tw_576 tw_68 tw_574 tw_575 (by decide +kernel) rfl (Nat.le_of_ble_eq_true rfl) dX10_tell_47 rfl ?_
    rcases if_elim h3 with ⟨c21, h4⟩ | ⟨c21, h4⟩
    · refine rn_zeq_t (pc := 50) (tgt := 69) dX10_tell_50 (by decide) c21 ?_
      refine rn_bipush (pc := 69) (v := -2) dX10_tell_69 (by decide) ?_
      cases h4
      exact rn_iret (pc := 71) rfl dX10_tell_71
    · refine rn_zeq_f (pc := 50) 69 dX10_tell_50 (by decide) c21 ?_
      refine rn_iload_n (pc := 53) 3 dX10_tell_53 rfl rfl ?_
      refine rn_aload (pc := 54) 4 dX10_tell_54 rfl ?_
      obtain ⟨v22, hv22, h5⟩ := bnd_some h4
      refine rn_getI (pc := 56) (k := 0) okX5 (by decide) tw_231 rfl dX10_tell_56 hv22 ?_
      rcases if_elim h5 with ⟨c23, h6⟩ | ⟨c23, h6⟩
      · refine rn_ige_f (pc := 59) 72 dX10_tell_59 (by decide) c23 ?_
        refine rn_goto (pc := 62) (tgt := 69) dX10_tell_62 (by decide) ?_
        refine rn_bipush (pc := 69) (v := -2) dX10_tell_69 (by decide) ?_
        cases h6
        exact rn_iret (pc := 71) rfl dX10_tell_71
      · refine rn_ige_t (pc := 59) (tgt := 72) dX10_tell_59 (by decide) c23 ?_
        exact rn_sub [1, 2, 3, 4, 0] rfl (jtX10_tell_72 h6)
theorem jtX10_tell_34 {l : Launch} {G : Gt} {d : Nat} {t0 : Nat} {p2 : Int32} {p3 : Int32} {p4 : Option Nat} {u : Mem} {y : Int32 × Mem} (h : jX10_tell_34 t0 p2 p3 p4 u = some y) : Rn l G iX10_tell (d + 1) 34 [(0, rv (some t0)), (2, .int p2), (3, .int p3), (4, rv p4)] [] u (.returned (some (.int y.1))) y.2 := by
  unfold jX10_tell_34 at h
  refine rn_iconst (pc := 34) (v := 1) dX10_tell_34 (by decide) ?_
  refine rn_goto (pc := 35) (tgt := 39) dX10_tell_35 (by decide) ?_
  exact rn_sub [0, 1, 2, 3] rfl (jtX10_tell_39 h)
theorem tX10_tell {l : Launch} {G : Gt} {d : Nat} {t0 : Nat} {p1 : Int32} {p2 : Int32} {p3 : Int32} {u : Mem} {y : Int32 × Mem} (h : fX10_tell t0 p1 p2 p3 u = some y) : Rn l G iX10_tell (d + 1) 0 [(0, rv (some t0)), (1, .int p1), (2, .int p2), (3, .int p3)] [] u (.returned (some (.int y.1))) y.2 := by
  unfold fX10_tell at h
  refine rn_aload_n (pc := 0) 0 dX10_tell_0 rfl rfl ?_
  obtain ⟨v1, hv1, h1⟩ := bnd_some h
  refine rn_getR (pc := 1) (k := 3) okX10 (by decide) tw_430 rfl dX10_tell_1 hv1 ?_
  refine rn_iload_n (pc := 4) 1 dX10_tell_4 rfl rfl ?_
  obtain ⟨b2, hb2, h2⟩ := bnd_some h1
  obtain ⟨qb2, kb2⟩ := chk_elim hb2
  subst qb2
  obtain ⟨v3, hv3, h3⟩ := bnd_some h2
  refine rn_callV (pc := 5) (n := 1) (As := [.int p1]) (rest := []) (eX0_hasQuestion (d := d + 0) hv3) (by omega) okX0 kb2 tw_588 tw_72 tw_585 tw_586 tw_587 (by decide +kernel) rfl (Nat.le_of_ble_eq_true rfl) dX10_tell_5 rfl ?_
  rcases if_elim h3 with ⟨c4, h4⟩ | ⟨c4, h4⟩
  · refine rn_zne_f (pc := 8) 14 dX10_tell_8 (by decide) c4 ?_
    refine rn_bipush (pc := 11) (v := -2) dX10_tell_11 (by decide) ?_
    cases h4
    exact rn_iret (pc := 13) rfl dX10_tell_13
  · refine rn_zne_t (pc := 8) (tgt := 14) dX10_tell_8 (by decide) c4 ?_
    refine rn_aload_n (pc := 14) 0 dX10_tell_14 rfl rfl ?_
    obtain ⟨v5, hv5, h5⟩ := bnd_some h4
    refine rn_getR (pc := 15) (k := 3) okX10 (by decide) tw_430 rfl dX10_tell_15 hv5 ?_
    obtain ⟨v6, hv6, h6⟩ := bnd_some h5
    refine rn_getR (pc := 18) (k := 0) okX0 (by decide) tw_258 rfl dX10_tell_18 hv6 ?_
    refine rn_iload_n (pc := 21) 1 dX10_tell_21 rfl rfl ?_
    obtain ⟨v7, hv7, h7⟩ := bnd_some h6
    refine rn_aald24 (pc := 22) dX10_tell_22 hv7 ?_
    refine rn_astore (pc := 23) (lv' := [(4, rv v7), (0, rv (some t0)), (1, .int p1), (2, .int p2), (3, .int p3)]) dX10_tell_23 (by decide) rfl ?_
    refine rn_iload_n (pc := 25) 3 dX10_tell_25 rfl rfl ?_
    rcases if_elim h7 with ⟨c8, h8⟩ | ⟨c8, h8⟩
    · refine rn_zeq_t (pc := 26) (tgt := 34) dX10_tell_26 (by decide) c8 ?_
      exact rn_sub [1, 3, 4, 0] rfl (jtX10_tell_34 h8)
    · refine rn_zeq_f (pc := 26) 34 dX10_tell_26 (by decide) c8 ?_
      refine rn_iload_n (pc := 29) 3 dX10_tell_29 rfl rfl ?_
      refine rn_iconst (pc := 30) (v := 1) dX10_tell_30 (by decide) ?_
      rcases if_elim h8 with ⟨c24, h9⟩ | ⟨c24, h9⟩
      · refine rn_ine_f (pc := 31) 38 dX10_tell_31 (by decide) c24 ?_
        exact rn_sub [1, 3, 4, 0] rfl (jtX10_tell_34 h9)
      · refine rn_ine_t (pc := 31) (tgt := 38) dX10_tell_31 (by decide) c24 ?_
        refine rn_iconst (pc := 38) (v := 0) dX10_tell_38 (by decide) ?_
        exact rn_sub [1, 3, 4, 0] rfl (jtX10_tell_39 h9)
theorem eX10_tell {l : Launch} {G : Gt} {d : Nat} {t0 : Nat} {p1 : Int32} {p2 : Int32} {p3 : Int32} {u : Mem} {y : Int32 × Mem} (h : fX10_tell t0 p1 p2 p3 u = some y) : Ex l G iX10_tell (d + 1) [rv (some t0), .int p1, .int p2, .int p3] u (.returned (some (.int y.1))) y.2 := Ex.of (by decide +kernel) (by decide) (Nat.le_of_ble_eq_true rfl) rfl (tX10_tell h)
theorem tX10_isGuesser {l : Launch} {G : Gt} {d : Nat} {p0 : Int32} {u : Mem} {y : Int32} (h : fX10_isGuesser p0 u = some y) : Rn l G iX10_isGuesser d 0 [(0, .int p0)] [] u (.returned (some (.int y))) u := by
  unfold fX10_isGuesser at h
  refine rn_iload_n (pc := 0) 0 dX10_isGuesser_0 rfl rfl ?_
  rcases if_elim h with ⟨c1, h1⟩ | ⟨c1, h1⟩
  · refine rn_zlt_t (pc := 1) (tgt := 14) dX10_isGuesser_1 (by decide) c1 ?_
    refine rn_iconst (pc := 14) (v := 0) dX10_isGuesser_14 (by decide) ?_
    cases h1
    exact rn_zret (pc := 15) (by decide) rfl dX10_isGuesser_15
  · refine rn_zlt_f (pc := 1) 14 dX10_isGuesser_1 (by decide) c1 ?_
    refine rn_iload_n (pc := 4) 0 dX10_isGuesser_4 rfl rfl ?_
    refine rn_bipush (pc := 5) (v := 20) dX10_isGuesser_5 (by decide) ?_
    rcases if_elim h1 with ⟨c2, h2⟩ | ⟨c2, h2⟩
    · refine rn_ige_f (pc := 7) 14 dX10_isGuesser_7 (by decide) c2 ?_
      refine rn_iconst (pc := 10) (v := 1) dX10_isGuesser_10 (by decide) ?_
      refine rn_goto (pc := 11) (tgt := 15) dX10_isGuesser_11 (by decide) ?_
      cases h2
      exact rn_zret (pc := 15) (by decide) rfl dX10_isGuesser_15
    · refine rn_ige_t (pc := 7) (tgt := 14) dX10_isGuesser_7 (by decide) c2 ?_
      refine rn_iconst (pc := 14) (v := 0) dX10_isGuesser_14 (by decide) ?_
      cases h2
      exact rn_zret (pc := 15) (by decide) rfl dX10_isGuesser_15
theorem eX10_isGuesser {l : Launch} {G : Gt} {d : Nat} {p0 : Int32} {u : Mem} {y : Int32} (h : fX10_isGuesser p0 u = some y) : Ex l G iX10_isGuesser d [.int p0] u (.returned (some (.int y))) u := Ex.of (by decide +kernel) (by decide) (Nat.le_of_ble_eq_true rfl) rfl (tX10_isGuesser h)
theorem tX10_isTenth {l : Launch} {G : Gt} {d : Nat} {p0 : Int32} {u : Mem} {y : Int32} (h : fX10_isTenth p0 u = some y) : Rn l G iX10_isTenth d 0 [(0, .int p0)] [] u (.returned (some (.int y))) u := by
  unfold fX10_isTenth at h
  refine rn_iload_n (pc := 0) 0 dX10_isTenth_0 rfl rfl ?_
  rcases if_elim h with ⟨c1, h1⟩ | ⟨c1, h1⟩
  · refine rn_zlt_t (pc := 1) (tgt := 14) dX10_isTenth_1 (by decide) c1 ?_
    refine rn_iconst (pc := 14) (v := 0) dX10_isTenth_14 (by decide) ?_
    cases h1
    exact rn_zret (pc := 15) (by decide) rfl dX10_isTenth_15
  · refine rn_zlt_f (pc := 1) 14 dX10_isTenth_1 (by decide) c1 ?_
    refine rn_iload_n (pc := 4) 0 dX10_isTenth_4 rfl rfl ?_
    refine rn_bipush (pc := 5) (v := 11) dX10_isTenth_5 (by decide) ?_
    rcases if_elim h1 with ⟨c2, h2⟩ | ⟨c2, h2⟩
    · refine rn_ige_f (pc := 7) 14 dX10_isTenth_7 (by decide) c2 ?_
      refine rn_iconst (pc := 10) (v := 1) dX10_isTenth_10 (by decide) ?_
      refine rn_goto (pc := 11) (tgt := 15) dX10_isTenth_11 (by decide) ?_
      cases h2
      exact rn_zret (pc := 15) (by decide) rfl dX10_isTenth_15
    · refine rn_ige_t (pc := 7) (tgt := 14) dX10_isTenth_7 (by decide) c2 ?_
      refine rn_iconst (pc := 14) (v := 0) dX10_isTenth_14 (by decide) ?_
      cases h2
      exact rn_zret (pc := 15) (by decide) rfl dX10_isTenth_15
theorem eX10_isTenth {l : Launch} {G : Gt} {d : Nat} {p0 : Int32} {u : Mem} {y : Int32} (h : fX10_isTenth p0 u = some y) : Ex l G iX10_isTenth d [.int p0] u (.returned (some (.int y))) u := Ex.of (by decide +kernel) (by decide) (Nat.le_of_ble_eq_true rfl) rfl (tX10_isTenth h)
theorem tX10_guess {l : Launch} {G : Gt} {d : Nat} {t0 : Nat} {p1 : Int32} {p2 : Int32} {p3 : Int32} {p4 : Int32} {u : Mem} {y : Int32 × Mem} (h : fX10_guess t0 p1 p2 p3 p4 u = some y) : Rn l G iX10_guess (d + 3) 0 [(0, rv (some t0)), (1, .int p1), (2, .int p2), (3, .int p3), (4, .int p4)] [] u (.returned (some (.int y.1))) y.2 := by
  unfold fX10_guess at h
  refine rn_iload_n (pc := 0) 1 dX10_guess_0 rfl rfl ?_
  obtain ⟨v1, hv1, h1⟩ := bnd_some h
  refine rn_callS (pc := 1) (n := 1) (As := [.int p1]) (rest := []) (eX10_isGuesser (d := d + 2) hv1) (by omega) tw_595 tw_68 tw_593 tw_594 (by decide +kernel) rfl (Nat.le_of_ble_eq_true rfl) dX10_guess_1 rfl ?_
  rcases if_elim h1 with ⟨c2, h2⟩ | ⟨c2, h2⟩
  · refine rn_zeq_t (pc := 4) (tgt := 26) dX10_guess_4 (by decide) c2 ?_
    refine rn_bipush (pc := 26) (v := -2) dX10_guess_26 (by decide) ?_
    cases h2
    exact rn_iret (pc := 28) rfl dX10_guess_28
  · refine rn_zeq_f (pc := 4) 26 dX10_guess_4 (by decide) c2 ?_
    refine rn_aload_n (pc := 7) 0 dX10_guess_7 rfl rfl ?_
    obtain ⟨v3, hv3, h3⟩ := bnd_some h2
    refine rn_getR (pc := 8) (k := 3) okX10 (by decide) tw_430 rfl dX10_guess_8 hv3 ?_
    refine rn_iload_n (pc := 11) 2 dX10_guess_11 rfl rfl ?_
    obtain ⟨b4, hb4, h4⟩ := bnd_some h3
    obtain ⟨qb4, kb4⟩ := chk_elim hb4
    subst qb4
    obtain ⟨v5, hv5, h5⟩ := bnd_some h4
    refine rn_callV (pc := 12) (n := 1) (As := [.int p2]) (rest := []) (eX0_hasQuestion (d := d + 2) hv5) (by omega) okX0 kb4 tw_588 tw_72 tw_585 tw_586 tw_587 (by decide +kernel) rfl (Nat.le_of_ble_eq_true rfl) dX10_guess_12 rfl ?_
    rcases if_elim h5 with ⟨c6, h6⟩ | ⟨c6, h6⟩
    · refine rn_zeq_t (pc := 15) (tgt := 26) dX10_guess_15 (by decide) c6 ?_
      refine rn_bipush (pc := 26) (v := -2) dX10_guess_26 (by decide) ?_
      cases h6
      exact rn_iret (pc := 28) rfl dX10_guess_28
    · refine rn_zeq_f (pc := 15) 26 dX10_guess_15 (by decide) c6 ?_
      refine rn_iload (pc := 18) 4 dX10_guess_18 rfl ?_
      obtain ⟨v7, hv7, h7⟩ := bnd_some h6
      refine rn_callS (pc := 20) (n := 1) (As := [.int p4]) (rest := []) (eX10_isTenth (d := d + 2) hv7) (by omega) tw_598 tw_68 tw_596 tw_597 (by decide +kernel) rfl (Nat.le_of_ble_eq_true rfl) dX10_guess_20 rfl ?_
      rcases if_elim h7 with ⟨c8, h8⟩ | ⟨c8, h8⟩
      · refine rn_zne_f (pc := 23) 29 dX10_guess_23 (by decide) c8 ?_
        refine rn_bipush (pc := 26) (v := -2) dX10_guess_26 (by decide) ?_
        cases h8
        exact rn_iret (pc := 28) rfl dX10_guess_28
      · refine rn_zne_t (pc := 23) (tgt := 29) dX10_guess_23 (by decide) c8 ?_
        refine rn_aload_n (pc := 29) 0 dX10_guess_29 rfl rfl ?_
        obtain ⟨v9, hv9, h9⟩ := bnd_some h8
        refine rn_getR (pc := 30) (k := 3) okX10 (by decide) tw_430 rfl dX10_guess_30 hv9 ?_
        obtain ⟨v10, hv10, h10⟩ := bnd_some h9
        refine rn_getR (pc := 33) (k := 0) okX0 (by decide) tw_258 rfl dX10_guess_33 hv10 ?_
        refine rn_iload_n (pc := 36) 2 dX10_guess_36 rfl rfl ?_
        obtain ⟨v11, hv11, h11⟩ := bnd_some h10
        refine rn_aald24 (pc := 37) dX10_guess_37 hv11 ?_
        refine rn_astore (pc := 38) (lv' := [(5, rv v11), (0, rv (some t0)), (1, .int p1), (2, .int p2), (3, .int p3), (4, .int p4)]) dX10_guess_38 (by decide) rfl ?_
        refine rn_iload_n (pc := 40) 4 dX10_guess_40 rfl rfl ?_
        refine rn_aload (pc := 41) 0 dX10_guess_41 rfl ?_
        obtain ⟨v12, hv12, h12⟩ := bnd_some h11
        refine rn_getI (pc := 43) (k := 0) okX5 (by decide) tw_231 rfl dX10_guess_43 hv12 ?_
        rcases if_elim h12 with ⟨c13, h13⟩ | ⟨c13, h13⟩
        · refine rn_ilt_t (pc := 46) (tgt := 58) dX10_guess_46 (by decide) c13 ?_
          refine rn_bipush (pc := 58) (v := -2) dX10_guess_58 (by decide) ?_
          cases h13
          exact rn_iret (pc := 60) rfl dX10_guess_60
        · refine rn_ilt_f (pc := 46) 58 dX10_guess_46 (by decide) c13 ?_
          refine rn_iload_n (pc := 49) 4 dX10_guess_49 rfl rfl ?_
          refine rn_aload (pc := 50) 0 dX10_guess_50 rfl ?_
          obtain ⟨v14, hv14, h14⟩ := bnd_some h13
          refine rn_getI (pc := 52) (k := 1) okX5 (by decide) tw_234 rfl dX10_guess_52 hv14 ?_
          rcases if_elim h14 with ⟨c15, h15⟩ | ⟨c15, h15⟩
          · refine rn_ile_f (pc := 55) 61 dX10_guess_55 (by decide) c15 ?_
            refine rn_bipush (pc := 58) (v := -2) dX10_guess_58 (by decide) ?_
            cases h15
            exact rn_iret (pc := 60) rfl dX10_guess_60
          · refine rn_ile_t (pc := 55) (tgt := 61) dX10_guess_55 (by decide) c15 ?_
            refine rn_aload (pc := 61) 0 dX10_guess_61 rfl ?_
            obtain ⟨v16, hv16, h16⟩ := bnd_some h15
            refine rn_getI (pc := 63) (k := 2) okX5 (by decide) tw_238 rfl dX10_guess_63 hv16 ?_
            refine rn_iconst (pc := 66) (v := 3) dX10_guess_66 (by decide) ?_
            rcases if_elim h16 with ⟨c17, h17⟩ | ⟨c17, h17⟩
            · refine rn_ine_f (pc := 67) 83 dX10_guess_67 (by decide) c17 ?_
              refine rn_aload_n (pc := 70) 1 dX10_guess_70 rfl rfl ?_
              obtain ⟨v18, hv18, h18⟩ := bnd_some h17
              refine rn_getR (pc := 71) (k := 3) okX10 (by decide) tw_430 rfl dX10_guess_71 hv18 ?_
              refine rn_iload_n (pc := 74) 2 dX10_guess_74 rfl rfl ?_
              refine rn_iload_n (pc := 75) 3 dX10_guess_75 rfl rfl ?_
              refine rn_iload_n (pc := 76) 4 dX10_guess_76 rfl rfl ?_
              obtain ⟨b19, hb19, h19⟩ := bnd_some h18
              obtain ⟨qb19, kb19⟩ := chk_elim hb19
              subst qb19
              obtain ⟨v20, hv20, h20⟩ := bnd_some h19
              refine rn_callV (pc := 77) (n := 3) (As := [.int p1, .int p2, .int p3]) (rest := []) (eX0_hasLaterGuess (d := d + 1) hv20) (by omega) okX0 kb19 tw_602 tw_72 tw_599 tw_600 tw_601 (by decide +kernel) rfl (Nat.le_of_ble_eq_true rfl) dX10_guess_77 rfl ?_
              rcases if_elim h20 with ⟨c21, h21⟩ | ⟨c21, h21⟩
              · refine rn_zeq_t (pc := 80) (tgt := 86) dX10_guess_80 (by decide) c21 ?_
                refine rn_aload_n (pc := 86) 1 dX10_guess_86 rfl rfl ?_
                obtain ⟨v22, hv22, h22⟩ := bnd_some h21
                refine rn_getR (pc := 87) (k := 3) okX10 (by decide) tw_430 rfl dX10_guess_87 hv22 ?_
                obtain ⟨v23, hv23, h23⟩ := bnd_some h22
                refine rn_getI (pc := 90) (k := 4) okX0 (by decide) tw_270 rfl dX10_guess_90 hv23 ?_
                refine rn_sipush (pc := 93) (v := 300) dX10_guess_93 (by decide) ?_
                rcases if_elim h23 with ⟨c24, h24⟩ | ⟨c24, h24⟩
                · refine rn_ilt_t (pc := 96) (tgt := 102) dX10_guess_96 (by decide) c24 ?_
                  refine rn_aload_n (pc := 102) 1 dX10_guess_102 rfl rfl ?_
                  obtain ⟨v25, hv25, h25⟩ := bnd_some h24
                  refine rn_getR (pc := 103) (k := 3) okX10 (by decide) tw_430 rfl dX10_guess_103 hv25 ?_
                  refine rn_iload_n (pc := 106) 2 dX10_guess_106 rfl rfl ?_
                  refine rn_iload_n (pc := 107) 3 dX10_guess_107 rfl rfl ?_
                  refine rn_iload_n (pc := 108) 4 dX10_guess_108 rfl rfl ?_
                  refine rn_iload (pc := 109) 5 dX10_guess_109 rfl ?_
                  obtain ⟨b26, hb26, h26⟩ := bnd_some h25
                  obtain ⟨qb26, kb26⟩ := chk_elim hb26
                  subst qb26
                  obtain ⟨v27, u28, hv27, h27⟩ := bnd2_some h26
                  refine rn_callV (pc := 111) (n := 4) (As := [.int p1, .int p2, .int p3, .int p4]) (rest := []) (eX0_addGuess (d := d + 0) hv27) (by omega) okX0 kb26 tw_611 tw_72 tw_608 tw_609 tw_610 (by decide +kernel) rfl (Nat.le_of_ble_eq_true rfl) dX10_guess_111 rfl ?_
                  cases h27
                  exact rn_iret (pc := 114) rfl dX10_guess_114
                · refine rn_ilt_f (pc := 96) 102 dX10_guess_96 (by decide) c24 ?_
                  refine rn_bipush (pc := 99) (v := -3) dX10_guess_99 (by decide) ?_
                  cases h24
                  exact rn_iret (pc := 101) rfl dX10_guess_101
              · refine rn_zeq_f (pc := 80) 86 dX10_guess_80 (by decide) c21 ?_
                refine rn_bipush (pc := 83) (v := -4) dX10_guess_83 (by decide) ?_
                cases h21
                exact rn_iret (pc := 85) rfl dX10_guess_85
            · refine rn_ine_t (pc := 67) (tgt := 83) dX10_guess_67 (by decide) c17 ?_
              refine rn_bipush (pc := 83) (v := -4) dX10_guess_83 (by decide) ?_
              cases h17
              exact rn_iret (pc := 85) rfl dX10_guess_85
theorem eX10_guess {l : Launch} {G : Gt} {d : Nat} {t0 : Nat} {p1 : Int32} {p2 : Int32} {p3 : Int32} {p4 : Int32} {u : Mem} {y : Int32 × Mem} (h : fX10_guess t0 p1 p2 p3 p4 u = some y) : Ex l G iX10_guess (d + 3) [rv (some t0), .int p1, .int p2, .int p3, .int p4] u (.returned (some (.int y.1))) y.2 := Ex.of (by decide +kernel) (by decide) (Nat.le_of_ble_eq_true rfl) rfl (tX10_guess h)
theorem tX10_holds {l : Launch} {G : Gt} {d : Nat} {t0 : Nat} {p1 : Int32} {p2 : Int32} {p3 : Int32} {u : Mem} {y : Int32} (h : fX10_holds t0 p1 p2 p3 u = some y) : Rn l G iX10_holds (d + 2) 0 [(0, rv (some t0)), (1, .int p1), (2, .int p2), (3, .int p3)] [] u (.returned (some (.int y))) u := by
  unfold fX10_holds at h
  refine rn_iload_n (pc := 0) 1 dX10_holds_0 rfl rfl ?_
  obtain ⟨v1, hv1, h1⟩ := bnd_some h
  refine rn_callS (pc := 1) (n := 1) (As := [.int p1]) (rest := []) (eX10_isGuesser (d := d + 1) hv1) (by omega) tw_595 tw_68 tw_593 tw_594 (by decide +kernel) rfl (Nat.le_of_ble_eq_true rfl) dX10_holds_1 rfl ?_
  rcases if_elim h1 with ⟨c2, h2⟩ | ⟨c2, h2⟩
  · refine rn_zeq_t (pc := 4) (tgt := 25) dX10_holds_4 (by decide) c2 ?_
    refine rn_bipush (pc := 25) (v := -2) dX10_holds_25 (by decide) ?_
    cases h2
    exact rn_iret (pc := 27) rfl dX10_holds_27
  · refine rn_zeq_f (pc := 4) 25 dX10_holds_4 (by decide) c2 ?_
    refine rn_aload_n (pc := 7) 0 dX10_holds_7 rfl rfl ?_
    obtain ⟨v3, hv3, h3⟩ := bnd_some h2
    refine rn_getR (pc := 8) (k := 3) okX10 (by decide) tw_430 rfl dX10_holds_8 hv3 ?_
    refine rn_iload_n (pc := 11) 2 dX10_holds_11 rfl rfl ?_
    obtain ⟨b4, hb4, h4⟩ := bnd_some h3
    obtain ⟨qb4, kb4⟩ := chk_elim hb4
    subst qb4
    obtain ⟨v5, hv5, h5⟩ := bnd_some h4
    refine rn_callV (pc := 12) (n := 1) (As := [.int p2]) (rest := []) (eX0_hasQuestion (d := d + 1) hv5) (by omega) okX0 kb4 tw_588 tw_72 tw_585 tw_586 tw_587 (by decide +kernel) rfl (Nat.le_of_ble_eq_true rfl) dX10_holds_12 rfl ?_
    rcases if_elim h5 with ⟨c6, h6⟩ | ⟨c6, h6⟩
    · refine rn_zeq_t (pc := 15) (tgt := 25) dX10_holds_15 (by decide) c6 ?_
      refine rn_bipush (pc := 25) (v := -2) dX10_holds_25 (by decide) ?_
      cases h6
      exact rn_iret (pc := 27) rfl dX10_holds_27
    · refine rn_zeq_f (pc := 15) 25 dX10_holds_15 (by decide) c6 ?_
      refine rn_iload_n (pc := 18) 3 dX10_holds_18 rfl rfl ?_
      obtain ⟨v7, hv7, h7⟩ := bnd_some h6
      refine rn_callS (pc := 19) (n := 1) (As := [.int p3]) (rest := []) (eX10_isDay (d := d + 1) hv7) (by omega) tw_576 tw_68 tw_574 tw_575 (by decide +kernel) rfl (Nat.le_of_ble_eq_true rfl) dX10_holds_19 rfl ?_
      rcases if_elim h7 with ⟨c8, h8⟩ | ⟨c8, h8⟩
      · refine rn_zne_f (pc := 22) 28 dX10_holds_22 (by decide) c8 ?_
        refine rn_bipush (pc := 25) (v := -2) dX10_holds_25 (by decide) ?_
        cases h8
        exact rn_iret (pc := 27) rfl dX10_holds_27
      · refine rn_zne_t (pc := 22) (tgt := 28) dX10_holds_22 (by decide) c8 ?_
        refine rn_aload_n (pc := 28) 0 dX10_holds_28 rfl rfl ?_
        obtain ⟨v9, hv9, h9⟩ := bnd_some h8
        refine rn_getR (pc := 29) (k := 3) okX10 (by decide) tw_430 rfl dX10_holds_29 hv9 ?_
        refine rn_iload_n (pc := 32) 1 dX10_holds_32 rfl rfl ?_
        refine rn_iload_n (pc := 33) 2 dX10_holds_33 rfl rfl ?_
        refine rn_iload_n (pc := 34) 3 dX10_holds_34 rfl rfl ?_
        obtain ⟨b10, hb10, h10⟩ := bnd_some h9
        obtain ⟨qb10, kb10⟩ := chk_elim hb10
        subst qb10
        obtain ⟨v11, hv11, h11⟩ := bnd_some h10
        refine rn_callV (pc := 35) (n := 3) (As := [.int p1, .int p2, .int p3]) (rest := []) (eX0_heldTenth (d := d + 0) hv11) (by omega) okX0 kb10 tw_650 tw_72 tw_647 tw_648 tw_649 (by decide +kernel) rfl (Nat.le_of_ble_eq_true rfl) dX10_holds_35 rfl ?_
        cases h11
        exact rn_iret (pc := 38) rfl dX10_holds_38
theorem eX10_holds {l : Launch} {G : Gt} {d : Nat} {t0 : Nat} {p1 : Int32} {p2 : Int32} {p3 : Int32} {u : Mem} {y : Int32} (h : fX10_holds t0 p1 p2 p3 u = some y) : Ex l G iX10_holds (d + 2) [rv (some t0), .int p1, .int p2, .int p3] u (.returned (some (.int y))) u := Ex.of (by decide +kernel) (by decide) (Nat.le_of_ble_eq_true rfl) rfl (tX10_holds h)
theorem tX10_isZeroOrOne {l : Launch} {G : Gt} {d : Nat} {p0 : Int32} {u : Mem} {y : Int32} (h : fX10_isZeroOrOne p0 u = some y) : Rn l G iX10_isZeroOrOne d 0 [(0, .int p0)] [] u (.returned (some (.int y))) u := by
  unfold fX10_isZeroOrOne at h
  refine rn_iload_n (pc := 0) 0 dX10_isZeroOrOne_0 rfl rfl ?_
  rcases if_elim h with ⟨c1, h1⟩ | ⟨c1, h1⟩
  · refine rn_zeq_t (pc := 1) (tgt := 9) dX10_isZeroOrOne_1 (by decide) c1 ?_
    refine rn_iconst (pc := 9) (v := 1) dX10_isZeroOrOne_9 (by decide) ?_
    refine rn_goto (pc := 10) (tgt := 14) dX10_isZeroOrOne_10 (by decide) ?_
    cases h1
    exact rn_zret (pc := 14) (by decide) rfl dX10_isZeroOrOne_14
  · refine rn_zeq_f (pc := 1) 9 dX10_isZeroOrOne_1 (by decide) c1 ?_
    refine rn_iload_n (pc := 4) 0 dX10_isZeroOrOne_4 rfl rfl ?_
    refine rn_iconst (pc := 5) (v := 1) dX10_isZeroOrOne_5 (by decide) ?_
    rcases if_elim h1 with ⟨c2, h2⟩ | ⟨c2, h2⟩
    · refine rn_ine_f (pc := 6) 13 dX10_isZeroOrOne_6 (by decide) c2 ?_
      refine rn_iconst (pc := 9) (v := 1) dX10_isZeroOrOne_9 (by decide) ?_
      refine rn_goto (pc := 10) (tgt := 14) dX10_isZeroOrOne_10 (by decide) ?_
      cases h2
      exact rn_zret (pc := 14) (by decide) rfl dX10_isZeroOrOne_14
    · refine rn_ine_t (pc := 6) (tgt := 13) dX10_isZeroOrOne_6 (by decide) c2 ?_
      refine rn_iconst (pc := 13) (v := 0) dX10_isZeroOrOne_13 (by decide) ?_
      cases h2
      exact rn_zret (pc := 14) (by decide) rfl dX10_isZeroOrOne_14
theorem eX10_isZeroOrOne {l : Launch} {G : Gt} {d : Nat} {p0 : Int32} {u : Mem} {y : Int32} (h : fX10_isZeroOrOne p0 u = some y) : Ex l G iX10_isZeroOrOne d [.int p0] u (.returned (some (.int y))) u := Ex.of (by decide +kernel) (by decide) (Nat.le_of_ble_eq_true rfl) rfl (tX10_isZeroOrOne h)
theorem tX10_rows {l : Launch} {G : Gt} {d : Nat} {t0 : Nat} {p1 : Int32} {p2 : Int32} {p3 : Int32} {u : Mem} {y : Int32 × Mem} (h : fX10_rows t0 p1 p2 p3 u = some y) : Rn l G iX10_rows (d + 4) 0 [(0, rv (some t0)), (1, .int p1), (2, .int p2), (3, .int p3)] [] u (.returned (some (.int y.1))) y.2 := by
  unfold fX10_rows at h
  refine rn_iload_n (pc := 0) 1 dX10_rows_0 rfl rfl ?_
  obtain ⟨v1, hv1, h1⟩ := bnd_some h
  refine rn_callS (pc := 1) (n := 1) (As := [.int p1]) (rest := []) (eX10_isGuesser (d := d + 3) hv1) (by omega) tw_595 tw_68 tw_593 tw_594 (by decide +kernel) rfl (Nat.le_of_ble_eq_true rfl) dX10_rows_1 rfl ?_
  rcases if_elim h1 with ⟨c2, h2⟩ | ⟨c2, h2⟩
  · refine rn_zeq_t (pc := 4) (tgt := 25) dX10_rows_4 (by decide) c2 ?_
    refine rn_bipush (pc := 25) (v := -2) dX10_rows_25 (by decide) ?_
    cases h2
    exact rn_iret (pc := 27) rfl dX10_rows_27
  · refine rn_zeq_f (pc := 4) 25 dX10_rows_4 (by decide) c2 ?_
    refine rn_aload_n (pc := 7) 0 dX10_rows_7 rfl rfl ?_
    obtain ⟨v3, hv3, h3⟩ := bnd_some h2
    refine rn_getR (pc := 8) (k := 3) okX10 (by decide) tw_430 rfl dX10_rows_8 hv3 ?_
    refine rn_iload_n (pc := 11) 2 dX10_rows_11 rfl rfl ?_
    obtain ⟨b4, hb4, h4⟩ := bnd_some h3
    obtain ⟨qb4, kb4⟩ := chk_elim hb4
    subst qb4
    obtain ⟨v5, hv5, h5⟩ := bnd_some h4
    refine rn_callV (pc := 12) (n := 1) (As := [.int p2]) (rest := []) (eX0_hasQuestion (d := d + 3) hv5) (by omega) okX0 kb4 tw_588 tw_72 tw_585 tw_586 tw_587 (by decide +kernel) rfl (Nat.le_of_ble_eq_true rfl) dX10_rows_12 rfl ?_
    rcases if_elim h5 with ⟨c6, h6⟩ | ⟨c6, h6⟩
    · refine rn_zeq_t (pc := 15) (tgt := 25) dX10_rows_15 (by decide) c6 ?_
      refine rn_bipush (pc := 25) (v := -2) dX10_rows_25 (by decide) ?_
      cases h6
      exact rn_iret (pc := 27) rfl dX10_rows_27
    · refine rn_zeq_f (pc := 15) 25 dX10_rows_15 (by decide) c6 ?_
      refine rn_iload_n (pc := 18) 3 dX10_rows_18 rfl rfl ?_
      obtain ⟨v7, hv7, h7⟩ := bnd_some h6
      refine rn_callS (pc := 19) (n := 1) (As := [.int p3]) (rest := []) (eX10_isZeroOrOne (d := d + 3) hv7) (by omega) tw_661 tw_68 tw_659 tw_660 (by decide +kernel) rfl (Nat.le_of_ble_eq_true rfl) dX10_rows_19 rfl ?_
      rcases if_elim h7 with ⟨c8, h8⟩ | ⟨c8, h8⟩
      · refine rn_zne_f (pc := 22) 28 dX10_rows_22 (by decide) c8 ?_
        refine rn_bipush (pc := 25) (v := -2) dX10_rows_25 (by decide) ?_
        cases h8
        exact rn_iret (pc := 27) rfl dX10_rows_27
      · refine rn_zne_t (pc := 22) (tgt := 28) dX10_rows_22 (by decide) c8 ?_
        refine rn_aload_n (pc := 28) 0 dX10_rows_28 rfl rfl ?_
        obtain ⟨v9, hv9, h9⟩ := bnd_some h8
        refine rn_getR (pc := 29) (k := 4) okX10 (by decide) tw_431 rfl dX10_rows_29 hv9 ?_
        obtain ⟨b10, hb10, h10⟩ := bnd_some h9
        obtain ⟨qb10, kb10⟩ := chk_elim hb10
        subst qb10
        obtain ⟨u11, hu11, h11⟩ := bnd_some h10
        refine rn_callV (pc := 32) (n := 0) (As := []) (rest := []) (eX1_refresh (d := d + 0) hu11) (by omega) okX1 kb10 tw_665 tw_74 tw_662 tw_663 tw_664 (by decide +kernel) rfl (Nat.le_of_ble_eq_true rfl) dX10_rows_32 rfl ?_
        refine rn_iload_n (pc := 35) 3 dX10_rows_35 rfl rfl ?_
        rcases if_elim h11 with ⟨c12, h12⟩ | ⟨c12, h12⟩
        · refine rn_zne_f (pc := 36) 55 dX10_rows_36 (by decide) c12 ?_
          refine rn_aload_n (pc := 39) 0 dX10_rows_39 rfl rfl ?_
          obtain ⟨v13, hv13, h13⟩ := bnd_some h12
          refine rn_getR (pc := 40) (k := 4) okX10 (by decide) tw_431 rfl dX10_rows_40 hv13 ?_
          obtain ⟨v14, hv14, h14⟩ := bnd_some h13
          refine rn_getR (pc := 43) (k := 0) okX1 (by decide) tw_296 rfl dX10_rows_43 hv14 ?_
          refine rn_iload_n (pc := 46) 1 dX10_rows_46 rfl rfl ?_
          refine rn_iload_n (pc := 47) 2 dX10_rows_47 rfl rfl ?_
          obtain ⟨v15, hv15, h15⟩ := bnd_some h14
          refine rn_callS (pc := 48) (n := 2) (As := [.int p1, .int p2]) (rest := [rv v14]) (eX10_cell (d := d + 3) hv15) (by omega) tw_604 tw_68 tw_699 tw_603 (by decide +kernel) rfl (cat_le8 (Nat.le_of_ble_eq_true rfl)) dX10_rows_48 rfl ?_
          obtain ⟨v16, hv16, h16⟩ := bnd_some h15
          refine rn_iald (pc := 51) dX10_rows_51 hv16 ?_
          refine rn_goto (pc := 52) (tgt := 68) dX10_rows_52 (by decide) ?_
          cases h16
          exact rn_iret (pc := 68) rfl dX10_rows_68
        · refine rn_zne_t (pc := 36) (tgt := 55) dX10_rows_36 (by decide) c12 ?_
          refine rn_aload_n (pc := 55) 0 dX10_rows_55 rfl rfl ?_
          obtain ⟨v17, hv17, h17⟩ := bnd_some h12
          refine rn_getR (pc := 56) (k := 4) okX10 (by decide) tw_431 rfl dX10_rows_56 hv17 ?_
          obtain ⟨v18, hv18, h18⟩ := bnd_some h17
          refine rn_getR (pc := 59) (k := 1) okX1 (by decide) tw_299 rfl dX10_rows_59 hv18 ?_
          refine rn_iload_n (pc := 62) 1 dX10_rows_62 rfl rfl ?_
          refine rn_iload_n (pc := 63) 2 dX10_rows_63 rfl rfl ?_
          obtain ⟨v19, hv19, h19⟩ := bnd_some h18
          refine rn_callS (pc := 64) (n := 2) (As := [.int p1, .int p2]) (rest := [rv v18]) (eX10_cell (d := d + 3) hv19) (by omega) tw_604 tw_68 tw_699 tw_603 (by decide +kernel) rfl (cat_le8 (Nat.le_of_ble_eq_true rfl)) dX10_rows_64 rfl ?_
          obtain ⟨v20, hv20, h20⟩ := bnd_some h19
          refine rn_iald (pc := 67) dX10_rows_67 hv20 ?_
          cases h20
          exact rn_iret (pc := 68) rfl dX10_rows_68
theorem eX10_rows {l : Launch} {G : Gt} {d : Nat} {t0 : Nat} {p1 : Int32} {p2 : Int32} {p3 : Int32} {u : Mem} {y : Int32 × Mem} (h : fX10_rows t0 p1 p2 p3 u = some y) : Ex l G iX10_rows (d + 4) [rv (some t0), .int p1, .int p2, .int p3] u (.returned (some (.int y.1))) y.2 := Ex.of (by decide +kernel) (by decide) (Nat.le_of_ble_eq_true rfl) rfl (tX10_rows h)
theorem tX10_mean {l : Launch} {G : Gt} {d : Nat} {t0 : Nat} {p1 : Int32} {p2 : Int32} {u : Mem} {y : Int32 × Mem} (h : fX10_mean t0 p1 p2 u = some y) : Rn l G iX10_mean (d + 4) 0 [(0, rv (some t0)), (1, .int p1), (2, .int p2)] [] u (.returned (some (.int y.1))) y.2 := by
  unfold fX10_mean at h
  refine rn_iload_n (pc := 0) 1 dX10_mean_0 rfl rfl ?_
  obtain ⟨v1, hv1, h1⟩ := bnd_some h
  refine rn_callS (pc := 1) (n := 1) (As := [.int p1]) (rest := []) (eX10_isGuesser (d := d + 3) hv1) (by omega) tw_595 tw_68 tw_593 tw_594 (by decide +kernel) rfl (Nat.le_of_ble_eq_true rfl) dX10_mean_1 rfl ?_
  rcases if_elim h1 with ⟨c2, h2⟩ | ⟨c2, h2⟩
  · refine rn_zeq_t (pc := 4) (tgt := 14) dX10_mean_4 (by decide) c2 ?_
    refine rn_bipush (pc := 14) (v := -2) dX10_mean_14 (by decide) ?_
    cases h2
    exact rn_iret (pc := 16) rfl dX10_mean_16
  · refine rn_zeq_f (pc := 4) 14 dX10_mean_4 (by decide) c2 ?_
    refine rn_iload_n (pc := 7) 2 dX10_mean_7 rfl rfl ?_
    obtain ⟨v3, hv3, h3⟩ := bnd_some h2
    refine rn_callS (pc := 8) (n := 1) (As := [.int p2]) (rest := []) (eX10_isZeroOrOne (d := d + 3) hv3) (by omega) tw_661 tw_68 tw_659 tw_660 (by decide +kernel) rfl (Nat.le_of_ble_eq_true rfl) dX10_mean_8 rfl ?_
    rcases if_elim h3 with ⟨c4, h4⟩ | ⟨c4, h4⟩
    · refine rn_zne_f (pc := 11) 17 dX10_mean_11 (by decide) c4 ?_
      refine rn_bipush (pc := 14) (v := -2) dX10_mean_14 (by decide) ?_
      cases h4
      exact rn_iret (pc := 16) rfl dX10_mean_16
    · refine rn_zne_t (pc := 11) (tgt := 17) dX10_mean_11 (by decide) c4 ?_
      refine rn_aload_n (pc := 17) 0 dX10_mean_17 rfl rfl ?_
      obtain ⟨v5, hv5, h5⟩ := bnd_some h4
      refine rn_getR (pc := 18) (k := 4) okX10 (by decide) tw_431 rfl dX10_mean_18 hv5 ?_
      obtain ⟨b6, hb6, h6⟩ := bnd_some h5
      obtain ⟨qb6, kb6⟩ := chk_elim hb6
      subst qb6
      obtain ⟨u7, hu7, h7⟩ := bnd_some h6
      refine rn_callV (pc := 21) (n := 0) (As := []) (rest := []) (eX1_refresh (d := d + 0) hu7) (by omega) okX1 kb6 tw_665 tw_74 tw_662 tw_663 tw_664 (by decide +kernel) rfl (Nat.le_of_ble_eq_true rfl) dX10_mean_21 rfl ?_
      refine rn_aload_n (pc := 24) 0 dX10_mean_24 rfl rfl ?_
      obtain ⟨v8, hv8, h8⟩ := bnd_some h7
      refine rn_getR (pc := 25) (k := 4) okX10 (by decide) tw_431 rfl dX10_mean_25 hv8 ?_
      refine rn_iload_n (pc := 28) 1 dX10_mean_28 rfl rfl ?_
      obtain ⟨b9, hb9, h9⟩ := bnd_some h8
      obtain ⟨qb9, kb9⟩ := chk_elim hb9
      subst qb9
      obtain ⟨v10, hv10, h10⟩ := bnd_some h9
      refine rn_callV (pc := 29) (n := 1) (As := [.int p1]) (rest := []) (eX1_hasMean (d := d + 3) hv10) (by omega) okX1 kb9 tw_707 tw_74 tw_704 tw_705 tw_706 (by decide +kernel) rfl (Nat.le_of_ble_eq_true rfl) dX10_mean_29 rfl ?_
      rcases if_elim h10 with ⟨c11, h11⟩ | ⟨c11, h11⟩
      · refine rn_zne_f (pc := 32) 37 dX10_mean_32 (by decide) c11 ?_
        refine rn_iconst (pc := 35) (v := 0) dX10_mean_35 (by decide) ?_
        cases h11
        exact rn_iret (pc := 36) rfl dX10_mean_36
      · refine rn_zne_t (pc := 32) (tgt := 37) dX10_mean_32 (by decide) c11 ?_
        refine rn_iload_n (pc := 37) 2 dX10_mean_37 rfl rfl ?_
        rcases if_elim h11 with ⟨c12, h12⟩ | ⟨c12, h12⟩
        · refine rn_zne_f (pc := 38) 52 dX10_mean_38 (by decide) c12 ?_
          refine rn_aload_n (pc := 41) 0 dX10_mean_41 rfl rfl ?_
          obtain ⟨v13, hv13, h13⟩ := bnd_some h12
          refine rn_getR (pc := 42) (k := 4) okX10 (by decide) tw_431 rfl dX10_mean_42 hv13 ?_
          refine rn_iload_n (pc := 45) 1 dX10_mean_45 rfl rfl ?_
          obtain ⟨b14, hb14, h14⟩ := bnd_some h13
          obtain ⟨qb14, kb14⟩ := chk_elim hb14
          subst qb14
          obtain ⟨v15, hv15, h15⟩ := bnd_some h14
          refine rn_callV (pc := 46) (n := 1) (As := [.int p1]) (rest := []) (eX1_meanAbove (d := d + 1) hv15) (by omega) okX1 kb14 tw_711 tw_74 tw_708 tw_709 tw_710 (by decide +kernel) rfl (Nat.le_of_ble_eq_true rfl) dX10_mean_46 rfl ?_
          refine rn_goto (pc := 49) (tgt := 60) dX10_mean_49 (by decide) ?_
          cases h15
          exact rn_iret (pc := 60) rfl dX10_mean_60
        · refine rn_zne_t (pc := 38) (tgt := 52) dX10_mean_38 (by decide) c12 ?_
          refine rn_aload_n (pc := 52) 0 dX10_mean_52 rfl rfl ?_
          obtain ⟨v16, hv16, h16⟩ := bnd_some h12
          refine rn_getR (pc := 53) (k := 4) okX10 (by decide) tw_431 rfl dX10_mean_53 hv16 ?_
          refine rn_iload_n (pc := 56) 1 dX10_mean_56 rfl rfl ?_
          obtain ⟨b17, hb17, h17⟩ := bnd_some h16
          obtain ⟨qb17, kb17⟩ := chk_elim hb17
          subst qb17
          obtain ⟨v18, hv18, h18⟩ := bnd_some h17
          refine rn_callV (pc := 57) (n := 1) (As := [.int p1]) (rest := []) (eX1_meanBelow (d := d + 1) hv18) (by omega) okX1 kb17 tw_721 tw_74 tw_718 tw_719 tw_720 (by decide +kernel) rfl (Nat.le_of_ble_eq_true rfl) dX10_mean_57 rfl ?_
          cases h18
          exact rn_iret (pc := 60) rfl dX10_mean_60
theorem eX10_mean {l : Launch} {G : Gt} {d : Nat} {t0 : Nat} {p1 : Int32} {p2 : Int32} {u : Mem} {y : Int32 × Mem} (h : fX10_mean t0 p1 p2 u = some y) : Ex l G iX10_mean (d + 4) [rv (some t0), .int p1, .int p2] u (.returned (some (.int y.1))) y.2 := Ex.of (by decide +kernel) (by decide) (Nat.le_of_ble_eq_true rfl) rfl (tX10_mean h)
theorem tX10_ranked {l : Launch} {G : Gt} {d : Nat} {t0 : Nat} {p1 : Int32} {u : Mem} {y : Int32 × Mem} (h : fX10_ranked t0 p1 u = some y) : Rn l G iX10_ranked (d + 4) 0 [(0, rv (some t0)), (1, .int p1)] [] u (.returned (some (.int y.1))) y.2 := by
  unfold fX10_ranked at h
  refine rn_aload_n (pc := 0) 0 dX10_ranked_0 rfl rfl ?_
  obtain ⟨v1, hv1, h1⟩ := bnd_some h
  refine rn_getR (pc := 1) (k := 4) okX10 (by decide) tw_431 rfl dX10_ranked_1 hv1 ?_
  obtain ⟨b2, hb2, h2⟩ := bnd_some h1
  obtain ⟨qb2, kb2⟩ := chk_elim hb2
  subst qb2
  obtain ⟨u3, hu3, h3⟩ := bnd_some h2
  refine rn_callV (pc := 4) (n := 0) (As := []) (rest := []) (eX1_refresh (d := d + 0) hu3) (by omega) okX1 kb2 tw_665 tw_74 tw_662 tw_663 tw_664 (by decide +kernel) rfl (Nat.le_of_ble_eq_true rfl) dX10_ranked_4 rfl ?_
  refine rn_aload_n (pc := 7) 0 dX10_ranked_7 rfl rfl ?_
  obtain ⟨v4, hv4, h4⟩ := bnd_some h3
  refine rn_getR (pc := 8) (k := 4) okX10 (by decide) tw_431 rfl dX10_ranked_8 hv4 ?_
  refine rn_iload_n (pc := 11) 1 dX10_ranked_11 rfl rfl ?_
  obtain ⟨b5, hb5, h5⟩ := bnd_some h4
  obtain ⟨qb5, kb5⟩ := chk_elim hb5
  subst qb5
  obtain ⟨v6, hv6, h6⟩ := bnd_some h5
  refine rn_callV (pc := 12) (n := 1) (As := [.int p1]) (rest := []) (eX1_guesserAtRank (d := d + 1) hv6) (by omega) okX1 kb5 tw_729 tw_74 tw_726 tw_727 tw_728 (by decide +kernel) rfl (Nat.le_of_ble_eq_true rfl) dX10_ranked_12 rfl ?_
  cases h6
  exact rn_iret (pc := 15) rfl dX10_ranked_15
theorem eX10_ranked {l : Launch} {G : Gt} {d : Nat} {t0 : Nat} {p1 : Int32} {u : Mem} {y : Int32 × Mem} (h : fX10_ranked t0 p1 u = some y) : Ex l G iX10_ranked (d + 4) [rv (some t0), .int p1] u (.returned (some (.int y.1))) y.2 := Ex.of (by decide +kernel) (by decide) (Nat.le_of_ble_eq_true rfl) rfl (tX10_ranked h)
theorem tX10_pays {l : Launch} {G : Gt} {d : Nat} {t0 : Nat} {p1 : Int32} {u : Mem} {y : Int32} (h : fX10_pays t0 p1 u = some y) : Rn l G iX10_pays (d + 2) 0 [(0, rv (some t0)), (1, .int p1)] [] u (.returned (some (.int y))) u := by
  unfold fX10_pays at h
  refine rn_iload_n (pc := 0) 1 dX10_pays_0 rfl rfl ?_
  obtain ⟨v1, hv1, h1⟩ := bnd_some h
  refine rn_callS (pc := 1) (n := 1) (As := [.int p1]) (rest := []) (eX10_isTenth (d := d + 1) hv1) (by omega) tw_598 tw_68 tw_596 tw_597 (by decide +kernel) rfl (Nat.le_of_ble_eq_true rfl) dX10_pays_1 rfl ?_
  rcases if_elim h1 with ⟨c2, h2⟩ | ⟨c2, h2⟩
  · refine rn_zeq_t (pc := 4) (tgt := 18) dX10_pays_4 (by decide) c2 ?_
    refine rn_bipush (pc := 18) (v := -2) dX10_pays_18 (by decide) ?_
    cases h2
    exact rn_iret (pc := 20) rfl dX10_pays_20
  · refine rn_zeq_f (pc := 4) 18 dX10_pays_4 (by decide) c2 ?_
    refine rn_aload_n (pc := 7) 0 dX10_pays_7 rfl rfl ?_
    obtain ⟨v3, hv3, h3⟩ := bnd_some h2
    refine rn_getR (pc := 8) (k := 4) okX10 (by decide) tw_431 rfl dX10_pays_8 hv3 ?_
    refine rn_iload_n (pc := 11) 1 dX10_pays_11 rfl rfl ?_
    obtain ⟨b4, hb4, h4⟩ := bnd_some h3
    obtain ⟨qb4, kb4⟩ := chk_elim hb4
    subst qb4
    obtain ⟨v5, hv5, h5⟩ := bnd_some h4
    refine rn_callV (pc := 12) (n := 1) (As := [.int p1]) (rest := []) (eX1_bestTenthToSay (d := d + 0) hv5) (by omega) okX1 kb4 tw_744 tw_74 tw_741 tw_742 tw_743 (by decide +kernel) rfl (Nat.le_of_ble_eq_true rfl) dX10_pays_12 rfl ?_
    refine rn_goto (pc := 15) (tgt := 20) dX10_pays_15 (by decide) ?_
    cases h5
    exact rn_iret (pc := 20) rfl dX10_pays_20
theorem eX10_pays {l : Launch} {G : Gt} {d : Nat} {t0 : Nat} {p1 : Int32} {u : Mem} {y : Int32} (h : fX10_pays t0 p1 u = some y) : Ex l G iX10_pays (d + 2) [rv (some t0), .int p1] u (.returned (some (.int y))) u := Ex.of (by decide +kernel) (by decide) (Nat.le_of_ble_eq_true rfl) rfl (tX10_pays h)
theorem tX10_honest {l : Launch} {G : Gt} {d : Nat} {t0 : Nat} {u : Mem} {y : Int32} (h : fX10_honest t0 u = some y) : Rn l G iX10_honest (d + 3) 0 [(0, rv (some t0))] [] u (.returned (some (.int y))) u := by
  unfold fX10_honest at h
  refine rn_aload_n (pc := 0) 0 dX10_honest_0 rfl rfl ?_
  obtain ⟨v1, hv1, h1⟩ := bnd_some h
  refine rn_getR (pc := 1) (k := 4) okX10 (by decide) tw_431 rfl dX10_honest_1 hv1 ?_
  obtain ⟨b2, hb2, h2⟩ := bnd_some h1
  obtain ⟨qb2, kb2⟩ := chk_elim hb2
  subst qb2
  obtain ⟨v3, hv3, h3⟩ := bnd_some h2
  refine rn_callV (pc := 4) (n := 0) (As := []) (rest := []) (eX1_leastDishonestBelief (d := d + 0) hv3) (by omega) okX1 kb2 tw_755 tw_74 tw_752 tw_753 tw_754 (by decide +kernel) rfl (Nat.le_of_ble_eq_true rfl) dX10_honest_4 rfl ?_
  cases h3
  exact rn_iret (pc := 7) rfl dX10_honest_7
theorem eX10_honest {l : Launch} {G : Gt} {d : Nat} {t0 : Nat} {u : Mem} {y : Int32} (h : fX10_honest t0 u = some y) : Ex l G iX10_honest (d + 3) [rv (some t0)] u (.returned (some (.int y))) u := Ex.of (by decide +kernel) (by decide) (Nat.le_of_ble_eq_true rfl) rfl (tX10_honest h)
theorem tX10_copies {l : Launch} {G : Gt} {d : Nat} {t0 : Nat} {p1 : Int32} {p2 : Int32} {u : Mem} {y : Int32} (h : fX10_copies t0 p1 p2 u = some y) : Rn l G iX10_copies (d + 3) 0 [(0, rv (some t0)), (1, .int p1), (2, .int p2)] [] u (.returned (some (.int y))) u := by
  unfold fX10_copies at h
  refine rn_iload_n (pc := 0) 1 dX10_copies_0 rfl rfl ?_
  obtain ⟨v1, hv1, h1⟩ := bnd_some h
  refine rn_callS (pc := 1) (n := 1) (As := [.int p1]) (rest := []) (eX10_isGuesser (d := d + 2) hv1) (by omega) tw_595 tw_68 tw_593 tw_594 (by decide +kernel) rfl (Nat.le_of_ble_eq_true rfl) dX10_copies_1 rfl ?_
  rcases if_elim h1 with ⟨c2, h2⟩ | ⟨c2, h2⟩
  · refine rn_zeq_t (pc := 4) (tgt := 19) dX10_copies_4 (by decide) c2 ?_
    refine rn_bipush (pc := 19) (v := -2) dX10_copies_19 (by decide) ?_
    cases h2
    exact rn_iret (pc := 21) rfl dX10_copies_21
  · refine rn_zeq_f (pc := 4) 19 dX10_copies_4 (by decide) c2 ?_
    refine rn_iload_n (pc := 7) 2 dX10_copies_7 rfl rfl ?_
    obtain ⟨v3, hv3, h3⟩ := bnd_some h2
    refine rn_callS (pc := 8) (n := 1) (As := [.int p2]) (rest := []) (eX10_isGuesser (d := d + 2) hv3) (by omega) tw_595 tw_68 tw_593 tw_594 (by decide +kernel) rfl (Nat.le_of_ble_eq_true rfl) dX10_copies_8 rfl ?_
    rcases if_elim h3 with ⟨c4, h4⟩ | ⟨c4, h4⟩
    · refine rn_zeq_t (pc := 11) (tgt := 19) dX10_copies_11 (by decide) c4 ?_
      refine rn_bipush (pc := 19) (v := -2) dX10_copies_19 (by decide) ?_
      cases h4
      exact rn_iret (pc := 21) rfl dX10_copies_21
    · refine rn_zeq_f (pc := 11) 19 dX10_copies_11 (by decide) c4 ?_
      refine rn_iload_n (pc := 14) 1 dX10_copies_14 rfl rfl ?_
      refine rn_iload_n (pc := 15) 2 dX10_copies_15 rfl rfl ?_
      rcases if_elim h4 with ⟨c5, h5⟩ | ⟨c5, h5⟩
      · refine rn_ine_f (pc := 16) 22 dX10_copies_16 (by decide) c5 ?_
        refine rn_bipush (pc := 19) (v := -2) dX10_copies_19 (by decide) ?_
        cases h5
        exact rn_iret (pc := 21) rfl dX10_copies_21
      · refine rn_ine_t (pc := 16) (tgt := 22) dX10_copies_16 (by decide) c5 ?_
        refine rn_aload_n (pc := 22) 0 dX10_copies_22 rfl rfl ?_
        obtain ⟨v6, hv6, h6⟩ := bnd_some h5
        refine rn_getR (pc := 23) (k := 2) okX10 (by decide) tw_429 rfl dX10_copies_23 hv6 ?_
        obtain ⟨b7, hb7, h7⟩ := bnd_some h6
        obtain ⟨qb7, kb7⟩ := chk_elim hb7
        subst qb7
        obtain ⟨v8, hv8, h8⟩ := bnd_some h7
        refine rn_callV (pc := 26) (n := 0) (As := []) (rest := []) (eX7_tellsCopy (d := d + 2) hv8) (by omega) okX7 kb7 tw_766 tw_71 tw_763 tw_764 tw_765 (by decide +kernel) rfl (Nat.le_of_ble_eq_true rfl) dX10_copies_26 rfl ?_
        rcases if_elim h8 with ⟨c9, h9⟩ | ⟨c9, h9⟩
        · refine rn_zeq_t (pc := 29) (tgt := 44) dX10_copies_29 (by decide) c9 ?_
          refine rn_bipush (pc := 44) (v := -4) dX10_copies_44 (by decide) ?_
          cases h9
          exact rn_iret (pc := 46) rfl dX10_copies_46
        · refine rn_zeq_f (pc := 29) 44 dX10_copies_29 (by decide) c9 ?_
          refine rn_aload_n (pc := 32) 0 dX10_copies_32 rfl rfl ?_
          obtain ⟨v10, hv10, h10⟩ := bnd_some h9
          refine rn_getR (pc := 33) (k := 5) okX10 (by decide) tw_432 rfl dX10_copies_33 hv10 ?_
          refine rn_iload_n (pc := 36) 1 dX10_copies_36 rfl rfl ?_
          refine rn_iload_n (pc := 37) 2 dX10_copies_37 rfl rfl ?_
          obtain ⟨b11, hb11, h11⟩ := bnd_some h10
          obtain ⟨qb11, kb11⟩ := chk_elim hb11
          subst qb11
          obtain ⟨v12, hv12, h12⟩ := bnd_some h11
          refine rn_callV (pc := 38) (n := 2) (As := [.int p1, .int p2]) (rest := []) (eX2_countCopies (d := d + 0) hv12) (by omega) okX2 kb11 tw_770 tw_75 tw_767 tw_768 tw_769 (by decide +kernel) rfl (Nat.le_of_ble_eq_true rfl) dX10_copies_38 rfl ?_
          refine rn_goto (pc := 41) (tgt := 46) dX10_copies_41 (by decide) ?_
          cases h12
          exact rn_iret (pc := 46) rfl dX10_copies_46
theorem eX10_copies {l : Launch} {G : Gt} {d : Nat} {t0 : Nat} {p1 : Int32} {p2 : Int32} {u : Mem} {y : Int32} (h : fX10_copies t0 p1 p2 u = some y) : Ex l G iX10_copies (d + 3) [rv (some t0), .int p1, .int p2] u (.returned (some (.int y))) u := Ex.of (by decide +kernel) (by decide) (Nat.le_of_ble_eq_true rfl) rfl (tX10_copies h)
theorem tX10_weight {l : Launch} {G : Gt} {d : Nat} {t0 : Nat} {p1 : Int32} {p2 : Int32} {u : Mem} {y : Int32 × Mem} (h : fX10_weight t0 p1 p2 u = some y) : Rn l G iX10_weight (d + 5) 0 [(0, rv (some t0)), (1, .int p1), (2, .int p2)] [] u (.returned (some (.int y.1))) y.2 := by
  unfold fX10_weight at h
  refine rn_iload_n (pc := 0) 1 dX10_weight_0 rfl rfl ?_
  obtain ⟨v1, hv1, h1⟩ := bnd_some h
  refine rn_callS (pc := 1) (n := 1) (As := [.int p1]) (rest := []) (eX10_isGuesser (d := d + 4) hv1) (by omega) tw_595 tw_68 tw_593 tw_594 (by decide +kernel) rfl (Nat.le_of_ble_eq_true rfl) dX10_weight_1 rfl ?_
  rcases if_elim h1 with ⟨c2, h2⟩ | ⟨c2, h2⟩
  · refine rn_zeq_t (pc := 4) (tgt := 14) dX10_weight_4 (by decide) c2 ?_
    refine rn_bipush (pc := 14) (v := -2) dX10_weight_14 (by decide) ?_
    cases h2
    exact rn_iret (pc := 16) rfl dX10_weight_16
  · refine rn_zeq_f (pc := 4) 14 dX10_weight_4 (by decide) c2 ?_
    refine rn_iload_n (pc := 7) 2 dX10_weight_7 rfl rfl ?_
    obtain ⟨v3, hv3, h3⟩ := bnd_some h2
    refine rn_callS (pc := 8) (n := 1) (As := [.int p2]) (rest := []) (eX10_isDay (d := d + 4) hv3) (by omega) tw_576 tw_68 tw_574 tw_575 (by decide +kernel) rfl (Nat.le_of_ble_eq_true rfl) dX10_weight_8 rfl ?_
    rcases if_elim h3 with ⟨c4, h4⟩ | ⟨c4, h4⟩
    · refine rn_zne_f (pc := 11) 17 dX10_weight_11 (by decide) c4 ?_
      refine rn_bipush (pc := 14) (v := -2) dX10_weight_14 (by decide) ?_
      cases h4
      exact rn_iret (pc := 16) rfl dX10_weight_16
    · refine rn_zne_t (pc := 11) (tgt := 17) dX10_weight_11 (by decide) c4 ?_
      refine rn_aload_n (pc := 17) 0 dX10_weight_17 rfl rfl ?_
      obtain ⟨v5, hv5, h5⟩ := bnd_some h4
      refine rn_getR (pc := 18) (k := 5) okX10 (by decide) tw_432 rfl dX10_weight_18 hv5 ?_
      obtain ⟨b6, hb6, h6⟩ := bnd_some h5
      obtain ⟨qb6, kb6⟩ := chk_elim hb6
      subst qb6
      obtain ⟨u7, hu7, h7⟩ := bnd_some h6
      refine rn_callV (pc := 21) (n := 0) (As := []) (rest := []) (eX2_refresh (d := d + 0) hu7) (by omega) okX2 kb6 tw_782 tw_75 tw_779 tw_780 tw_781 (by decide +kernel) rfl (Nat.le_of_ble_eq_true rfl) dX10_weight_21 rfl ?_
      refine rn_aload_n (pc := 24) 0 dX10_weight_24 rfl rfl ?_
      obtain ⟨v8, hv8, h8⟩ := bnd_some h7
      refine rn_getR (pc := 25) (k := 5) okX10 (by decide) tw_432 rfl dX10_weight_25 hv8 ?_
      refine rn_iload_n (pc := 28) 1 dX10_weight_28 rfl rfl ?_
      refine rn_iload_n (pc := 29) 2 dX10_weight_29 rfl rfl ?_
      obtain ⟨b9, hb9, h9⟩ := bnd_some h8
      obtain ⟨qb9, kb9⟩ := chk_elim hb9
      subst qb9
      obtain ⟨v10, hv10, h10⟩ := bnd_some h9
      refine rn_callV (pc := 30) (n := 2) (As := [.int p1, .int p2]) (rest := []) (eX2_weightOn (d := d + 3) hv10) (by omega) okX2 kb9 tw_797 tw_75 tw_794 tw_795 tw_796 (by decide +kernel) rfl (Nat.le_of_ble_eq_true rfl) dX10_weight_30 rfl ?_
      cases h10
      exact rn_iret (pc := 33) rfl dX10_weight_33
theorem eX10_weight {l : Launch} {G : Gt} {d : Nat} {t0 : Nat} {p1 : Int32} {p2 : Int32} {u : Mem} {y : Int32 × Mem} (h : fX10_weight t0 p1 p2 u = some y) : Ex l G iX10_weight (d + 5) [rv (some t0), .int p1, .int p2] u (.returned (some (.int y.1))) y.2 := Ex.of (by decide +kernel) (by decide) (Nat.le_of_ble_eq_true rfl) rfl (tX10_weight h)
theorem tX10_joined {l : Launch} {G : Gt} {d : Nat} {t0 : Nat} {p1 : Int32} {p2 : Int32} {u : Mem} {y : Int32 × Mem} (h : fX10_joined t0 p1 p2 u = some y) : Rn l G iX10_joined (d + 5) 0 [(0, rv (some t0)), (1, .int p1), (2, .int p2)] [] u (.returned (some (.int y.1))) y.2 := by
  unfold fX10_joined at h
  refine rn_aload_n (pc := 0) 0 dX10_joined_0 rfl rfl ?_
  obtain ⟨v1, hv1, h1⟩ := bnd_some h
  refine rn_getR (pc := 1) (k := 3) okX10 (by decide) tw_430 rfl dX10_joined_1 hv1 ?_
  refine rn_iload_n (pc := 4) 1 dX10_joined_4 rfl rfl ?_
  obtain ⟨b2, hb2, h2⟩ := bnd_some h1
  obtain ⟨qb2, kb2⟩ := chk_elim hb2
  subst qb2
  obtain ⟨v3, hv3, h3⟩ := bnd_some h2
  refine rn_callV (pc := 5) (n := 1) (As := [.int p1]) (rest := []) (eX0_hasQuestion (d := d + 4) hv3) (by omega) okX0 kb2 tw_588 tw_72 tw_585 tw_586 tw_587 (by decide +kernel) rfl (Nat.le_of_ble_eq_true rfl) dX10_joined_5 rfl ?_
  rcases if_elim h3 with ⟨c4, h4⟩ | ⟨c4, h4⟩
  · refine rn_zeq_t (pc := 8) (tgt := 18) dX10_joined_8 (by decide) c4 ?_
    refine rn_bipush (pc := 18) (v := -2) dX10_joined_18 (by decide) ?_
    cases h4
    exact rn_iret (pc := 20) rfl dX10_joined_20
  · refine rn_zeq_f (pc := 8) 18 dX10_joined_8 (by decide) c4 ?_
    refine rn_iload_n (pc := 11) 2 dX10_joined_11 rfl rfl ?_
    obtain ⟨v5, hv5, h5⟩ := bnd_some h4
    refine rn_callS (pc := 12) (n := 1) (As := [.int p2]) (rest := []) (eX10_isDay (d := d + 4) hv5) (by omega) tw_576 tw_68 tw_574 tw_575 (by decide +kernel) rfl (Nat.le_of_ble_eq_true rfl) dX10_joined_12 rfl ?_
    rcases if_elim h5 with ⟨c6, h6⟩ | ⟨c6, h6⟩
    · refine rn_zne_f (pc := 15) 21 dX10_joined_15 (by decide) c6 ?_
      refine rn_bipush (pc := 18) (v := -2) dX10_joined_18 (by decide) ?_
      cases h6
      exact rn_iret (pc := 20) rfl dX10_joined_20
    · refine rn_zne_t (pc := 15) (tgt := 21) dX10_joined_15 (by decide) c6 ?_
      refine rn_aload_n (pc := 21) 0 dX10_joined_21 rfl rfl ?_
      obtain ⟨v7, hv7, h7⟩ := bnd_some h6
      refine rn_getR (pc := 22) (k := 5) okX10 (by decide) tw_432 rfl dX10_joined_22 hv7 ?_
      obtain ⟨b8, hb8, h8⟩ := bnd_some h7
      obtain ⟨qb8, kb8⟩ := chk_elim hb8
      subst qb8
      obtain ⟨u9, hu9, h9⟩ := bnd_some h8
      refine rn_callV (pc := 25) (n := 0) (As := []) (rest := []) (eX2_refresh (d := d + 0) hu9) (by omega) okX2 kb8 tw_782 tw_75 tw_779 tw_780 tw_781 (by decide +kernel) rfl (Nat.le_of_ble_eq_true rfl) dX10_joined_25 rfl ?_
      refine rn_aload_n (pc := 28) 0 dX10_joined_28 rfl rfl ?_
      obtain ⟨v10, hv10, h10⟩ := bnd_some h9
      refine rn_getR (pc := 29) (k := 5) okX10 (by decide) tw_432 rfl dX10_joined_29 hv10 ?_
      refine rn_iload_n (pc := 32) 1 dX10_joined_32 rfl rfl ?_
      refine rn_iload_n (pc := 33) 2 dX10_joined_33 rfl rfl ?_
      obtain ⟨b11, hb11, h11⟩ := bnd_some h10
      obtain ⟨qb11, kb11⟩ := chk_elim hb11
      subst qb11
      obtain ⟨v12, u13, hv12, h12⟩ := bnd2_some h11
      refine rn_callV (pc := 34) (n := 2) (As := [.int p1, .int p2]) (rest := []) (eX2_joinedTenth (d := d + 1) hv12) (by omega) okX2 kb11 tw_812 tw_75 tw_809 tw_810 tw_811 (by decide +kernel) rfl (Nat.le_of_ble_eq_true rfl) dX10_joined_34 rfl ?_
      cases h12
      exact rn_iret (pc := 37) rfl dX10_joined_37
theorem eX10_joined {l : Launch} {G : Gt} {d : Nat} {t0 : Nat} {p1 : Int32} {p2 : Int32} {u : Mem} {y : Int32 × Mem} (h : fX10_joined t0 p1 p2 u = some y) : Ex l G iX10_joined (d + 5) [rv (some t0), .int p1, .int p2] u (.returned (some (.int y.1))) y.2 := Ex.of (by decide +kernel) (by decide) (Nat.le_of_ble_eq_true rfl) rfl (tX10_joined h)
theorem tX10_together {l : Launch} {G : Gt} {d : Nat} {t0 : Nat} {p1 : Int32} {p2 : Int32} {u : Mem} {y : Int32 × Mem} (h : fX10_together t0 p1 p2 u = some y) : Rn l G iX10_together (d + 5) 0 [(0, rv (some t0)), (1, .int p1), (2, .int p2)] [] u (.returned (some (.int y.1))) y.2 := by
  unfold fX10_together at h
  refine rn_aload_n (pc := 0) 0 dX10_together_0 rfl rfl ?_
  obtain ⟨v1, hv1, h1⟩ := bnd_some h
  refine rn_getR (pc := 1) (k := 3) okX10 (by decide) tw_430 rfl dX10_together_1 hv1 ?_
  refine rn_iload_n (pc := 4) 1 dX10_together_4 rfl rfl ?_
  obtain ⟨b2, hb2, h2⟩ := bnd_some h1
  obtain ⟨qb2, kb2⟩ := chk_elim hb2
  subst qb2
  obtain ⟨v3, hv3, h3⟩ := bnd_some h2
  refine rn_callV (pc := 5) (n := 1) (As := [.int p1]) (rest := []) (eX0_hasQuestion (d := d + 4) hv3) (by omega) okX0 kb2 tw_588 tw_72 tw_585 tw_586 tw_587 (by decide +kernel) rfl (Nat.le_of_ble_eq_true rfl) dX10_together_5 rfl ?_
  rcases if_elim h3 with ⟨c4, h4⟩ | ⟨c4, h4⟩
  · refine rn_zeq_t (pc := 8) (tgt := 18) dX10_together_8 (by decide) c4 ?_
    refine rn_bipush (pc := 18) (v := -2) dX10_together_18 (by decide) ?_
    cases h4
    exact rn_iret (pc := 20) rfl dX10_together_20
  · refine rn_zeq_f (pc := 8) 18 dX10_together_8 (by decide) c4 ?_
    refine rn_iload_n (pc := 11) 2 dX10_together_11 rfl rfl ?_
    obtain ⟨v5, hv5, h5⟩ := bnd_some h4
    refine rn_callS (pc := 12) (n := 1) (As := [.int p2]) (rest := []) (eX10_isZeroOrOne (d := d + 4) hv5) (by omega) tw_661 tw_68 tw_659 tw_660 (by decide +kernel) rfl (Nat.le_of_ble_eq_true rfl) dX10_together_12 rfl ?_
    rcases if_elim h5 with ⟨c6, h6⟩ | ⟨c6, h6⟩
    · refine rn_zne_f (pc := 15) 21 dX10_together_15 (by decide) c6 ?_
      refine rn_bipush (pc := 18) (v := -2) dX10_together_18 (by decide) ?_
      cases h6
      exact rn_iret (pc := 20) rfl dX10_together_20
    · refine rn_zne_t (pc := 15) (tgt := 21) dX10_together_15 (by decide) c6 ?_
      refine rn_aload_n (pc := 21) 0 dX10_together_21 rfl rfl ?_
      obtain ⟨v7, hv7, h7⟩ := bnd_some h6
      refine rn_getR (pc := 22) (k := 5) okX10 (by decide) tw_432 rfl dX10_together_22 hv7 ?_
      obtain ⟨b8, hb8, h8⟩ := bnd_some h7
      obtain ⟨qb8, kb8⟩ := chk_elim hb8
      subst qb8
      obtain ⟨u9, hu9, h9⟩ := bnd_some h8
      refine rn_callV (pc := 25) (n := 0) (As := []) (rest := []) (eX2_refresh (d := d + 0) hu9) (by omega) okX2 kb8 tw_782 tw_75 tw_779 tw_780 tw_781 (by decide +kernel) rfl (Nat.le_of_ble_eq_true rfl) dX10_together_25 rfl ?_
      refine rn_iload_n (pc := 28) 2 dX10_together_28 rfl rfl ?_
      rcases if_elim h9 with ⟨c10, h10⟩ | ⟨c10, h10⟩
      · refine rn_zne_f (pc := 29) 43 dX10_together_29 (by decide) c10 ?_
        refine rn_aload_n (pc := 32) 0 dX10_together_32 rfl rfl ?_
        obtain ⟨v11, hv11, h11⟩ := bnd_some h10
        refine rn_getR (pc := 33) (k := 5) okX10 (by decide) tw_432 rfl dX10_together_33 hv11 ?_
        refine rn_iload_n (pc := 36) 1 dX10_together_36 rfl rfl ?_
        obtain ⟨b12, hb12, h12⟩ := bnd_some h11
        obtain ⟨qb12, kb12⟩ := chk_elim hb12
        subst qb12
        obtain ⟨v13, u14, hv13, h13⟩ := bnd2_some h12
        refine rn_callV (pc := 37) (n := 1) (As := [.int p1]) (rest := []) (eX2_joinedRows (d := d + 0) hv13) (by omega) okX2 kb12 tw_831 tw_75 tw_828 tw_829 tw_830 (by decide +kernel) rfl (Nat.le_of_ble_eq_true rfl) dX10_together_37 rfl ?_
        refine rn_goto (pc := 40) (tgt := 51) dX10_together_40 (by decide) ?_
        cases h13
        exact rn_iret (pc := 51) rfl dX10_together_51
      · refine rn_zne_t (pc := 29) (tgt := 43) dX10_together_29 (by decide) c10 ?_
        refine rn_aload_n (pc := 43) 0 dX10_together_43 rfl rfl ?_
        obtain ⟨v15, hv15, h14⟩ := bnd_some h10
        refine rn_getR (pc := 44) (k := 5) okX10 (by decide) tw_432 rfl dX10_together_44 hv15 ?_
        refine rn_iload_n (pc := 47) 1 dX10_together_47 rfl rfl ?_
        obtain ⟨b16, hb16, h15⟩ := bnd_some h14
        obtain ⟨qb16, kb16⟩ := chk_elim hb16
        subst qb16
        obtain ⟨v17, u18, hv17, h16⟩ := bnd2_some h15
        refine rn_callV (pc := 48) (n := 1) (As := [.int p1]) (rest := []) (eX2_joinedSum (d := d + 0) hv17) (by omega) okX2 kb16 tw_837 tw_75 tw_834 tw_835 tw_836 (by decide +kernel) rfl (Nat.le_of_ble_eq_true rfl) dX10_together_48 rfl ?_
        cases h16
        exact rn_iret (pc := 51) rfl dX10_together_51
theorem eX10_together {l : Launch} {G : Gt} {d : Nat} {t0 : Nat} {p1 : Int32} {p2 : Int32} {u : Mem} {y : Int32 × Mem} (h : fX10_together t0 p1 p2 u = some y) : Ex l G iX10_together (d + 5) [rv (some t0), .int p1, .int p2] u (.returned (some (.int y.1))) y.2 := Ex.of (by decide +kernel) (by decide) (Nat.le_of_ble_eq_true rfl) rfl (tX10_together h)
theorem tX10_luck {l : Launch} {G : Gt} {d : Nat} {t0 : Nat} {p1 : Int32} {p2 : Int32} {u : Mem} {y : Int64 × Mem} (h : fX10_luck t0 p1 p2 u = some y) : Rn l G iX10_luck (d + 6) 0 [(0, rv (some t0)), (1, .int p1), (2, .int p2)] [] u (.returned (some (.long y.1))) y.2 := by
  unfold fX10_luck at h
  refine rn_iload_n (pc := 0) 1 dX10_luck_0 rfl rfl ?_
  obtain ⟨v1, hv1, h1⟩ := bnd_some h
  refine rn_callS (pc := 1) (n := 1) (As := [.int p1]) (rest := []) (eX10_isGuesser (d := d + 5) hv1) (by omega) tw_595 tw_68 tw_593 tw_594 (by decide +kernel) rfl (Nat.le_of_ble_eq_true rfl) dX10_luck_1 rfl ?_
  rcases if_elim h1 with ⟨c2, h2⟩ | ⟨c2, h2⟩
  · refine rn_zeq_t (pc := 4) (tgt := 16) dX10_luck_4 (by decide) c2 ?_
    refine rn_ldc2 (pc := 16) tw_842 dX10_luck_16 ?_
    cases h2
    exact rn_lret (pc := 19) rfl dX10_luck_19
  · refine rn_zeq_f (pc := 4) 16 dX10_luck_4 (by decide) c2 ?_
    refine rn_iload_n (pc := 7) 2 dX10_luck_7 rfl rfl ?_
    rcases if_elim h2 with ⟨c3, h3⟩ | ⟨c3, h3⟩
    · refine rn_zlt_t (pc := 8) (tgt := 16) dX10_luck_8 (by decide) c3 ?_
      refine rn_ldc2 (pc := 16) tw_842 dX10_luck_16 ?_
      cases h3
      exact rn_lret (pc := 19) rfl dX10_luck_19
    · refine rn_zlt_f (pc := 8) 16 dX10_luck_8 (by decide) c3 ?_
      refine rn_iload_n (pc := 11) 2 dX10_luck_11 rfl rfl ?_
      refine rn_iconst (pc := 12) (v := 2) dX10_luck_12 (by decide) ?_
      rcases if_elim h3 with ⟨c4, h4⟩ | ⟨c4, h4⟩
      · refine rn_ile_f (pc := 13) 20 dX10_luck_13 (by decide) c4 ?_
        refine rn_ldc2 (pc := 16) tw_842 dX10_luck_16 ?_
        cases h4
        exact rn_lret (pc := 19) rfl dX10_luck_19
      · refine rn_ile_t (pc := 13) (tgt := 20) dX10_luck_13 (by decide) c4 ?_
        refine rn_aload_n (pc := 20) 0 dX10_luck_20 rfl rfl ?_
        obtain ⟨v5, hv5, h5⟩ := bnd_some h4
        refine rn_getR (pc := 21) (k := 5) okX10 (by decide) tw_432 rfl dX10_luck_21 hv5 ?_
        obtain ⟨b6, hb6, h6⟩ := bnd_some h5
        obtain ⟨qb6, kb6⟩ := chk_elim hb6
        subst qb6
        obtain ⟨u7, hu7, h7⟩ := bnd_some h6
        refine rn_callV (pc := 24) (n := 0) (As := []) (rest := []) (eX2_refresh (d := d + 1) hu7) (by omega) okX2 kb6 tw_782 tw_75 tw_779 tw_780 tw_781 (by decide +kernel) rfl (Nat.le_of_ble_eq_true rfl) dX10_luck_24 rfl ?_
        refine rn_aload_n (pc := 27) 0 dX10_luck_27 rfl rfl ?_
        obtain ⟨v8, hv8, h8⟩ := bnd_some h7
        refine rn_getR (pc := 28) (k := 5) okX10 (by decide) tw_432 rfl dX10_luck_28 hv8 ?_
        refine rn_iload_n (pc := 31) 1 dX10_luck_31 rfl rfl ?_
        obtain ⟨b9, hb9, h9⟩ := bnd_some h8
        obtain ⟨qb9, kb9⟩ := chk_elim hb9
        subst qb9
        obtain ⟨u10, hu10, h10⟩ := bnd_some h9
        refine rn_callV (pc := 32) (n := 1) (As := [.int p1]) (rest := []) (eX2_compareWithJoined (d := d + 0) hu10) (by omega) okX2 kb9 tw_846 tw_75 tw_843 tw_844 tw_845 (by decide +kernel) rfl (Nat.le_of_ble_eq_true rfl) dX10_luck_32 rfl ?_
        refine rn_iload_n (pc := 35) 2 dX10_luck_35 rfl rfl ?_
        rcases if_elim h10 with ⟨c11, h11⟩ | ⟨c11, h11⟩
        · refine rn_lsw (pc := 36) (tgt := 64) (off := 28) dX10_luck_36 (by decide) (by rw [c11]; rfl) (by decide) ?_
          refine rn_aload_n (pc := 64) 0 dX10_luck_64 rfl rfl ?_
          obtain ⟨v12, hv12, h12⟩ := bnd_some h11
          refine rn_getR (pc := 65) (k := 5) okX10 (by decide) tw_432 rfl dX10_luck_65 hv12 ?_
          obtain ⟨v13, hv13, h13⟩ := bnd_some h12
          refine rn_getI (pc := 68) (k := 0) okX2 (by decide) tw_327 rfl dX10_luck_68 hv13 ?_
          refine rn_i2l (pc := 71) dX10_luck_71 ?_
          cases h13
          exact rn_lret (pc := 72) rfl dX10_luck_72
        · skip
          rcases if_elim h11 with ⟨c14, h14⟩ | ⟨c14, h14⟩
          · refine rn_lsw (pc := 36) (tgt := 73) (off := 37) dX10_luck_36 (by decide) (by rw [c14]; rfl) (by decide) ?_
            refine rn_aload_n (pc := 73) 0 dX10_luck_73 rfl rfl ?_
            obtain ⟨v15, hv15, h15⟩ := bnd_some h14
            refine rn_getR (pc := 74) (k := 5) okX10 (by decide) tw_432 rfl dX10_luck_74 hv15 ?_
            obtain ⟨v16, hv16, h16⟩ := bnd_some h15
            refine rn_getI (pc := 77) (k := 1) okX2 (by decide) tw_329 rfl dX10_luck_77 hv16 ?_
            refine rn_i2l (pc := 80) dX10_luck_80 ?_
            cases h16
            exact rn_lret (pc := 81) rfl dX10_luck_81
          · skip
            refine rn_lsw (pc := 36) (tgt := 82) (off := 46) dX10_luck_36 (by decide) (by rw [lv_osw (k := 0) c11 (by decide), lv_osw (k := 1) c14 (by decide)]; rfl) (by decide) ?_
            refine rn_aload_n (pc := 82) 0 dX10_luck_82 rfl rfl ?_
            obtain ⟨v17, hv17, h17⟩ := bnd_some h14
            refine rn_getR (pc := 83) (k := 5) okX10 (by decide) tw_432 rfl dX10_luck_83 hv17 ?_
            obtain ⟨v18, hv18, h18⟩ := bnd_some h17
            refine rn_getI (pc := 86) (k := 0) okX2 (by decide) tw_327 rfl dX10_luck_86 hv18 ?_
            refine rn_aload_n (pc := 89) 0 dX10_luck_89 rfl rfl ?_
            obtain ⟨v19, hv19, h19⟩ := bnd_some h18
            refine rn_getR (pc := 90) (k := 5) okX10 (by decide) tw_432 rfl dX10_luck_90 hv19 ?_
            obtain ⟨v20, hv20, h20⟩ := bnd_some h19
            refine rn_getI (pc := 93) (k := 1) okX2 (by decide) tw_329 rfl dX10_luck_93 hv20 ?_
            obtain ⟨v21, hv21, h21⟩ := bnd_some h20
            refine rn_callS (pc := 96) (n := 2) (As := [.int v18, .int v20]) (rest := []) (eX2_rowsWithHeads (d := d + 5) hv21) (by omega) tw_857 tw_75 tw_855 tw_856 (by decide +kernel) rfl (Nat.le_of_ble_eq_true rfl) dX10_luck_96 rfl ?_
            cases h21
            exact rn_lret (pc := 99) rfl dX10_luck_99
theorem eX10_luck {l : Launch} {G : Gt} {d : Nat} {t0 : Nat} {p1 : Int32} {p2 : Int32} {u : Mem} {y : Int64 × Mem} (h : fX10_luck t0 p1 p2 u = some y) : Ex l G iX10_luck (d + 6) [rv (some t0), .int p1, .int p2] u (.returned (some (.long y.1))) y.2 := Ex.of (by decide +kernel) (by decide) (Nat.le_of_ble_eq_true rfl) rfl (tX10_luck h)
theorem tX10_tie {l : Launch} {G : Gt} {d : Nat} {t0 : Nat} {p1 : Int32} {p2 : Int32} {p3 : Int32} {u : Mem} {y : Int32 × Mem} (h : fX10_tie t0 p1 p2 p3 u = some y) : Rn l G iX10_tie (d + 1) 0 [(0, rv (some t0)), (1, .int p1), (2, .int p2), (3, .int p3)] [] u (.returned (some (.int y.1))) y.2 := by
  unfold fX10_tie at h
  refine rn_aload_n (pc := 0) 0 dX10_tie_0 rfl rfl ?_
  obtain ⟨v1, hv1, h1⟩ := bnd_some h
  refine rn_getR (pc := 1) (k := 3) okX10 (by decide) tw_430 rfl dX10_tie_1 hv1 ?_
  refine rn_iload_n (pc := 4) 1 dX10_tie_4 rfl rfl ?_
  obtain ⟨b2, hb2, h2⟩ := bnd_some h1
  obtain ⟨qb2, kb2⟩ := chk_elim hb2
  subst qb2
  obtain ⟨v3, hv3, h3⟩ := bnd_some h2
  refine rn_callV (pc := 5) (n := 1) (As := [.int p1]) (rest := []) (eX0_hasQuestion (d := d + 0) hv3) (by omega) okX0 kb2 tw_588 tw_72 tw_585 tw_586 tw_587 (by decide +kernel) rfl (Nat.le_of_ble_eq_true rfl) dX10_tie_5 rfl ?_
  rcases if_elim h3 with ⟨c4, h4⟩ | ⟨c4, h4⟩
  · refine rn_zeq_t (pc := 8) (tgt := 27) dX10_tie_8 (by decide) c4 ?_
    refine rn_bipush (pc := 27) (v := -2) dX10_tie_27 (by decide) ?_
    cases h4
    exact rn_iret (pc := 29) rfl dX10_tie_29
  · refine rn_zeq_f (pc := 8) 27 dX10_tie_8 (by decide) c4 ?_
    refine rn_aload_n (pc := 11) 0 dX10_tie_11 rfl rfl ?_
    obtain ⟨v5, hv5, h5⟩ := bnd_some h4
    refine rn_getR (pc := 12) (k := 3) okX10 (by decide) tw_430 rfl dX10_tie_12 hv5 ?_
    refine rn_iload_n (pc := 15) 2 dX10_tie_15 rfl rfl ?_
    obtain ⟨b6, hb6, h6⟩ := bnd_some h5
    obtain ⟨qb6, kb6⟩ := chk_elim hb6
    subst qb6
    obtain ⟨v7, hv7, h7⟩ := bnd_some h6
    refine rn_callV (pc := 16) (n := 1) (As := [.int p2]) (rest := []) (eX0_hasQuestion (d := d + 0) hv7) (by omega) okX0 kb6 tw_588 tw_72 tw_585 tw_586 tw_587 (by decide +kernel) rfl (Nat.le_of_ble_eq_true rfl) dX10_tie_16 rfl ?_
    rcases if_elim h7 with ⟨c8, h8⟩ | ⟨c8, h8⟩
    · refine rn_zeq_t (pc := 19) (tgt := 27) dX10_tie_19 (by decide) c8 ?_
      refine rn_bipush (pc := 27) (v := -2) dX10_tie_27 (by decide) ?_
      cases h8
      exact rn_iret (pc := 29) rfl dX10_tie_29
    · refine rn_zeq_f (pc := 19) 27 dX10_tie_19 (by decide) c8 ?_
      refine rn_iload_n (pc := 22) 1 dX10_tie_22 rfl rfl ?_
      refine rn_iload_n (pc := 23) 2 dX10_tie_23 rfl rfl ?_
      rcases if_elim h8 with ⟨c9, h9⟩ | ⟨c9, h9⟩
      · refine rn_ine_f (pc := 24) 30 dX10_tie_24 (by decide) c9 ?_
        refine rn_bipush (pc := 27) (v := -2) dX10_tie_27 (by decide) ?_
        cases h9
        exact rn_iret (pc := 29) rfl dX10_tie_29
      · refine rn_ine_t (pc := 24) (tgt := 30) dX10_tie_24 (by decide) c9 ?_
        refine rn_iload_n (pc := 30) 3 dX10_tie_30 rfl rfl ?_
        rcases if_elim h9 with ⟨c10, h10⟩ | ⟨c10, h10⟩
        · refine rn_zlt_t (pc := 31) (tgt := 39) dX10_tie_31 (by decide) c10 ?_
          refine rn_bipush (pc := 39) (v := -2) dX10_tie_39 (by decide) ?_
          cases h10
          exact rn_iret (pc := 41) rfl dX10_tie_41
        · refine rn_zlt_f (pc := 31) 39 dX10_tie_31 (by decide) c10 ?_
          refine rn_iload_n (pc := 34) 3 dX10_tie_34 rfl rfl ?_
          refine rn_iconst (pc := 35) (v := 2) dX10_tie_35 (by decide) ?_
          rcases if_elim h10 with ⟨c11, h11⟩ | ⟨c11, h11⟩
          · refine rn_ile_f (pc := 36) 42 dX10_tie_36 (by decide) c11 ?_
            refine rn_bipush (pc := 39) (v := -2) dX10_tie_39 (by decide) ?_
            cases h11
            exact rn_iret (pc := 41) rfl dX10_tie_41
          · refine rn_ile_t (pc := 36) (tgt := 42) dX10_tie_36 (by decide) c11 ?_
            refine rn_aload_n (pc := 42) 0 dX10_tie_42 rfl rfl ?_
            obtain ⟨v12, hv12, h12⟩ := bnd_some h11
            refine rn_getR (pc := 43) (k := 6) okX10 (by decide) tw_433 rfl dX10_tie_43 hv12 ?_
            obtain ⟨v13, hv13, h13⟩ := bnd_some h12
            refine rn_getI (pc := 46) (k := 3) okX9 (by decide) tw_376 rfl dX10_tie_46 hv13 ?_
            refine rn_bipush (pc := 49) (v := 30) dX10_tie_49 (by decide) ?_
            rcases if_elim h13 with ⟨c14, h14⟩ | ⟨c14, h14⟩
            · refine rn_ige_f (pc := 51) 67 dX10_tie_51 (by decide) c14 ?_
              refine rn_aload_n (pc := 54) 0 dX10_tie_54 rfl rfl ?_
              obtain ⟨v15, hv15, h15⟩ := bnd_some h14
              refine rn_getR (pc := 55) (k := 6) okX10 (by decide) tw_433 rfl dX10_tie_55 hv15 ?_
              refine rn_iload_n (pc := 58) 1 dX10_tie_58 rfl rfl ?_
              refine rn_iload_n (pc := 59) 2 dX10_tie_59 rfl rfl ?_
              refine rn_iload_n (pc := 60) 3 dX10_tie_60 rfl rfl ?_
              obtain ⟨b16, hb16, h16⟩ := bnd_some h15
              obtain ⟨qb16, kb16⟩ := chk_elim hb16
              subst qb16
              obtain ⟨v17, u18, hv17, h17⟩ := bnd2_some h16
              refine rn_callV (pc := 61) (n := 3) (As := [.int p1, .int p2, .int p3]) (rest := []) (eX9_append (d := d + 0) hv17) (by omega) okX9 kb16 tw_865 tw_76 tw_862 tw_863 tw_864 (by decide +kernel) rfl (Nat.le_of_ble_eq_true rfl) dX10_tie_61 rfl ?_
              refine rn_goto (pc := 64) (tgt := 69) dX10_tie_64 (by decide) ?_
              cases h17
              exact rn_iret (pc := 69) rfl dX10_tie_69
            · refine rn_ige_t (pc := 51) (tgt := 67) dX10_tie_51 (by decide) c14 ?_
              refine rn_bipush (pc := 67) (v := -3) dX10_tie_67 (by decide) ?_
              cases h14
              exact rn_iret (pc := 69) rfl dX10_tie_69
theorem eX10_tie {l : Launch} {G : Gt} {d : Nat} {t0 : Nat} {p1 : Int32} {p2 : Int32} {p3 : Int32} {u : Mem} {y : Int32 × Mem} (h : fX10_tie t0 p1 p2 p3 u = some y) : Ex l G iX10_tie (d + 1) [rv (some t0), .int p1, .int p2, .int p3] u (.returned (some (.int y.1))) y.2 := Ex.of (by decide +kernel) (by decide) (Nat.le_of_ble_eq_true rfl) rfl (tX10_tie h)
theorem tX10_pumps {l : Launch} {G : Gt} {d : Nat} {t0 : Nat} {p1 : Int32} {p2 : Int32} {u : Mem} {y : Int32} (h : fX10_pumps t0 p1 p2 u = some y) : Rn l G iX10_pumps (d + 3) 0 [(0, rv (some t0)), (1, .int p1), (2, .int p2)] [] u (.returned (some (.int y))) u := by
  unfold fX10_pumps at h
  refine rn_iload_n (pc := 0) 1 dX10_pumps_0 rfl rfl ?_
  obtain ⟨v1, hv1, h1⟩ := bnd_some h
  refine rn_callS (pc := 1) (n := 1) (As := [.int p1]) (rest := []) (eX10_isGuesser (d := d + 2) hv1) (by omega) tw_595 tw_68 tw_593 tw_594 (by decide +kernel) rfl (Nat.le_of_ble_eq_true rfl) dX10_pumps_1 rfl ?_
  rcases if_elim h1 with ⟨c2, h2⟩ | ⟨c2, h2⟩
  · refine rn_zeq_t (pc := 4) (tgt := 26) dX10_pumps_4 (by decide) c2 ?_
    refine rn_bipush (pc := 26) (v := -2) dX10_pumps_26 (by decide) ?_
    cases h2
    exact rn_iret (pc := 28) rfl dX10_pumps_28
  · refine rn_zeq_f (pc := 4) 26 dX10_pumps_4 (by decide) c2 ?_
    refine rn_iload_n (pc := 7) 2 dX10_pumps_7 rfl rfl ?_
    obtain ⟨v3, hv3, h3⟩ := bnd_some h2
    refine rn_callS (pc := 8) (n := 1) (As := [.int p2]) (rest := []) (eX10_isDay (d := d + 2) hv3) (by omega) tw_576 tw_68 tw_574 tw_575 (by decide +kernel) rfl (Nat.le_of_ble_eq_true rfl) dX10_pumps_8 rfl ?_
    rcases if_elim h3 with ⟨c4, h4⟩ | ⟨c4, h4⟩
    · refine rn_zeq_t (pc := 11) (tgt := 26) dX10_pumps_11 (by decide) c4 ?_
      refine rn_bipush (pc := 26) (v := -2) dX10_pumps_26 (by decide) ?_
      cases h4
      exact rn_iret (pc := 28) rfl dX10_pumps_28
    · refine rn_zeq_f (pc := 11) 26 dX10_pumps_11 (by decide) c4 ?_
      refine rn_aload_n (pc := 14) 0 dX10_pumps_14 rfl rfl ?_
      obtain ⟨v5, hv5, h5⟩ := bnd_some h4
      refine rn_getR (pc := 15) (k := 6) okX10 (by decide) tw_433 rfl dX10_pumps_15 hv5 ?_
      refine rn_iload_n (pc := 18) 1 dX10_pumps_18 rfl rfl ?_
      refine rn_iload_n (pc := 19) 2 dX10_pumps_19 rfl rfl ?_
      obtain ⟨b6, hb6, h6⟩ := bnd_some h5
      obtain ⟨qb6, kb6⟩ := chk_elim hb6
      subst qb6
      obtain ⟨v7, hv7, h7⟩ := bnd_some h6
      refine rn_callV (pc := 20) (n := 2) (As := [.int p1, .int p2]) (rest := []) (eX9_brokenBits (d := d + 0) hv7) (by omega) okX9 kb6 tw_873 tw_76 tw_870 tw_871 tw_872 (by decide +kernel) rfl (Nat.le_of_ble_eq_true rfl) dX10_pumps_20 rfl ?_
      refine rn_goto (pc := 23) (tgt := 28) dX10_pumps_23 (by decide) ?_
      cases h7
      exact rn_iret (pc := 28) rfl dX10_pumps_28
theorem eX10_pumps {l : Launch} {G : Gt} {d : Nat} {t0 : Nat} {p1 : Int32} {p2 : Int32} {u : Mem} {y : Int32} (h : fX10_pumps t0 p1 p2 u = some y) : Ex l G iX10_pumps (d + 3) [rv (some t0), .int p1, .int p2] u (.returned (some (.int y))) u := Ex.of (by decide +kernel) (by decide) (Nat.le_of_ble_eq_true rfl) rfl (tX10_pumps h)
theorem tX10_mend {l : Launch} {G : Gt} {d : Nat} {t0 : Nat} {p1 : Int32} {p2 : Int32} {p3 : Int32} {u : Mem} {y : Int32 × Mem} (h : fX10_mend t0 p1 p2 p3 u = some y) : Rn l G iX10_mend (d + 10) 0 [(0, rv (some t0)), (1, .int p1), (2, .int p2), (3, .int p3)] [] u (.returned (some (.int y.1))) y.2 := by
  unfold fX10_mend at h
  refine rn_iload_n (pc := 0) 1 dX10_mend_0 rfl rfl ?_
  obtain ⟨v1, hv1, h1⟩ := bnd_some h
  refine rn_callS (pc := 1) (n := 1) (As := [.int p1]) (rest := []) (eX10_isGuesser (d := d + 9) hv1) (by omega) tw_595 tw_68 tw_593 tw_594 (by decide +kernel) rfl (Nat.le_of_ble_eq_true rfl) dX10_mend_1 rfl ?_
  rcases if_elim h1 with ⟨c2, h2⟩ | ⟨c2, h2⟩
  · refine rn_zeq_t (pc := 4) (tgt := 31) dX10_mend_4 (by decide) c2 ?_
    refine rn_bipush (pc := 31) (v := -2) dX10_mend_31 (by decide) ?_
    cases h2
    exact rn_iret (pc := 33) rfl dX10_mend_33
  · refine rn_zeq_f (pc := 4) 31 dX10_mend_4 (by decide) c2 ?_
    refine rn_iload_n (pc := 7) 2 dX10_mend_7 rfl rfl ?_
    obtain ⟨v3, hv3, h3⟩ := bnd_some h2
    refine rn_callS (pc := 8) (n := 1) (As := [.int p2]) (rest := []) (eX10_isDay (d := d + 9) hv3) (by omega) tw_576 tw_68 tw_574 tw_575 (by decide +kernel) rfl (Nat.le_of_ble_eq_true rfl) dX10_mend_8 rfl ?_
    rcases if_elim h3 with ⟨c4, h4⟩ | ⟨c4, h4⟩
    · refine rn_zeq_t (pc := 11) (tgt := 31) dX10_mend_11 (by decide) c4 ?_
      refine rn_bipush (pc := 31) (v := -2) dX10_mend_31 (by decide) ?_
      cases h4
      exact rn_iret (pc := 33) rfl dX10_mend_33
    · refine rn_zeq_f (pc := 11) 31 dX10_mend_11 (by decide) c4 ?_
      refine rn_iload_n (pc := 14) 3 dX10_mend_14 rfl rfl ?_
      refine rn_iconst (pc := 15) (v := 1) dX10_mend_15 (by decide) ?_
      rcases if_elim h4 with ⟨c5, h5⟩ | ⟨c5, h5⟩
      · refine rn_ilt_t (pc := 16) (tgt := 31) dX10_mend_16 (by decide) c5 ?_
        refine rn_bipush (pc := 31) (v := -2) dX10_mend_31 (by decide) ?_
        cases h5
        exact rn_iret (pc := 33) rfl dX10_mend_33
      · refine rn_ilt_f (pc := 16) 31 dX10_mend_16 (by decide) c5 ?_
        refine rn_iload_n (pc := 19) 3 dX10_mend_19 rfl rfl ?_
        refine rn_aload_n (pc := 20) 0 dX10_mend_20 rfl rfl ?_
        obtain ⟨v6, hv6, h6⟩ := bnd_some h5
        refine rn_getR (pc := 21) (k := 3) okX10 (by decide) tw_430 rfl dX10_mend_21 hv6 ?_
        obtain ⟨v7, hv7, h7⟩ := bnd_some h6
        refine rn_getI (pc := 24) (k := 3) okX0 (by decide) tw_267 rfl dX10_mend_24 hv7 ?_
        refine rn_ishr (pc := 27) dX10_mend_27 ?_
        rcases if_elim h7 with ⟨c8, h8⟩ | ⟨c8, h8⟩
        · refine rn_zeq_t (pc := 28) (tgt := 34) dX10_mend_28 (by decide) c8 ?_
          refine rn_iload_n (pc := 34) 3 dX10_mend_34 rfl rfl ?_
          obtain ⟨v9, hv9, h9⟩ := bnd_some h8
          refine rn_callS (pc := 35) (n := 1) (As := [.int p3]) (rest := []) (eJ6_bitCount_0f7a4 (d := d + 9) hv9) (by omega) tw_884 tw_90 tw_882 tw_883 (by decide +kernel) rfl (Nat.le_of_ble_eq_true rfl) dX10_mend_35 rfl ?_
          refine rn_iconst (pc := 38) (v := 4) dX10_mend_38 (by decide) ?_
          rcases if_elim h9 with ⟨c10, h10⟩ | ⟨c10, h10⟩
          · refine rn_ile_f (pc := 39) 45 dX10_mend_39 (by decide) c10 ?_
            refine rn_bipush (pc := 42) (v := -3) dX10_mend_42 (by decide) ?_
            cases h10
            exact rn_iret (pc := 44) rfl dX10_mend_44
          · refine rn_ile_t (pc := 39) (tgt := 45) dX10_mend_39 (by decide) c10 ?_
            refine rn_aload_n (pc := 45) 0 dX10_mend_45 rfl rfl ?_
            obtain ⟨v11, hv11, h11⟩ := bnd_some h10
            refine rn_getR (pc := 46) (k := 7) okX10 (by decide) tw_434 rfl dX10_mend_46 hv11 ?_
            refine rn_iload_n (pc := 49) 1 dX10_mend_49 rfl rfl ?_
            refine rn_iload_n (pc := 50) 2 dX10_mend_50 rfl rfl ?_
            refine rn_iload_n (pc := 51) 3 dX10_mend_51 rfl rfl ?_
            obtain ⟨b12, hb12, h12⟩ := bnd_some h11
            obtain ⟨qb12, kb12⟩ := chk_elim hb12
            subst qb12
            obtain ⟨v13, u14, hv13, h13⟩ := bnd2_some h12
            refine rn_callV (pc := 52) (n := 3) (As := [.int p1, .int p2, .int p3]) (rest := []) (eX4_choose (d := d + 7) hv13) (by omega) okX4 kb12 tw_891 tw_77 tw_888 tw_889 tw_890 (by decide +kernel) rfl (Nat.le_of_ble_eq_true rfl) dX10_mend_52 rfl ?_
            rcases if_elim h13 with ⟨c15, h14⟩ | ⟨c15, h14⟩
            · refine rn_zeq_t (pc := 55) (tgt := 68) dX10_mend_55 (by decide) c15 ?_
              refine rn_bipush (pc := 68) (v := -4) dX10_mend_68 (by decide) ?_
              cases h14
              exact rn_iret (pc := 70) rfl dX10_mend_70
            · refine rn_zeq_f (pc := 55) 68 dX10_mend_55 (by decide) c15 ?_
              refine rn_aload_n (pc := 58) 0 dX10_mend_58 rfl rfl ?_
              obtain ⟨v16, hv16, h15⟩ := bnd_some h14
              refine rn_getR (pc := 59) (k := 7) okX10 (by decide) tw_434 rfl dX10_mend_59 hv16 ?_
              obtain ⟨b17, hb17, h16⟩ := bnd_some h15
              obtain ⟨qb17, kb17⟩ := chk_elim hb17
              subst qb17
              obtain ⟨v18, u19, hv18, h17⟩ := bnd2_some h16
              refine rn_callV (pc := 62) (n := 0) (As := []) (rest := []) (eX4_leastChange (d := d + 0) hv18) (by omega) okX4 kb17 tw_896 tw_77 tw_893 tw_894 tw_895 (by decide +kernel) rfl (Nat.le_of_ble_eq_true rfl) dX10_mend_62 rfl ?_
              refine rn_goto (pc := 65) (tgt := 70) dX10_mend_65 (by decide) ?_
              cases h17
              exact rn_iret (pc := 70) rfl dX10_mend_70
        · refine rn_zeq_f (pc := 28) 34 dX10_mend_28 (by decide) c8 ?_
          refine rn_bipush (pc := 31) (v := -2) dX10_mend_31 (by decide) ?_
          cases h8
          exact rn_iret (pc := 33) rfl dX10_mend_33
theorem eX10_mend {l : Launch} {G : Gt} {d : Nat} {t0 : Nat} {p1 : Int32} {p2 : Int32} {p3 : Int32} {u : Mem} {y : Int32 × Mem} (h : fX10_mend t0 p1 p2 p3 u = some y) : Ex l G iX10_mend (d + 10) [rv (some t0), .int p1, .int p2, .int p3] u (.returned (some (.int y.1))) y.2 := Ex.of (by decide +kernel) (by decide) (Nat.le_of_ble_eq_true rfl) rfl (tX10_mend h)
theorem tX10_mended {l : Launch} {G : Gt} {d : Nat} {t0 : Nat} {p1 : Int32} {u : Mem} {y : Int32} (h : fX10_mended t0 p1 u = some y) : Rn l G iX10_mended (d + 1) 0 [(0, rv (some t0)), (1, .int p1)] [] u (.returned (some (.int y))) u := by
  unfold fX10_mended at h
  refine rn_aload_n (pc := 0) 0 dX10_mended_0 rfl rfl ?_
  obtain ⟨v1, hv1, h1⟩ := bnd_some h
  refine rn_getR (pc := 1) (k := 3) okX10 (by decide) tw_430 rfl dX10_mended_1 hv1 ?_
  refine rn_iload_n (pc := 4) 1 dX10_mended_4 rfl rfl ?_
  obtain ⟨b2, hb2, h2⟩ := bnd_some h1
  obtain ⟨qb2, kb2⟩ := chk_elim hb2
  subst qb2
  obtain ⟨v3, hv3, h3⟩ := bnd_some h2
  refine rn_callV (pc := 5) (n := 1) (As := [.int p1]) (rest := []) (eX0_hasQuestion (d := d + 0) hv3) (by omega) okX0 kb2 tw_588 tw_72 tw_585 tw_586 tw_587 (by decide +kernel) rfl (Nat.le_of_ble_eq_true rfl) dX10_mended_5 rfl ?_
  rcases if_elim h3 with ⟨c4, h4⟩ | ⟨c4, h4⟩
  · refine rn_zeq_t (pc := 8) (tgt := 23) dX10_mended_8 (by decide) c4 ?_
    refine rn_iconst (pc := 23) (v := -1) dX10_mended_23 (by decide) ?_
    cases h4
    exact rn_iret (pc := 24) rfl dX10_mended_24
  · refine rn_zeq_f (pc := 8) 23 dX10_mended_8 (by decide) c4 ?_
    refine rn_aload_n (pc := 11) 0 dX10_mended_11 rfl rfl ?_
    obtain ⟨v5, hv5, h5⟩ := bnd_some h4
    refine rn_getR (pc := 12) (k := 7) okX10 (by decide) tw_434 rfl dX10_mended_12 hv5 ?_
    obtain ⟨v6, hv6, h6⟩ := bnd_some h5
    refine rn_getR (pc := 15) (k := 0) okX4 (by decide) tw_399 rfl dX10_mended_15 hv6 ?_
    refine rn_iload_n (pc := 18) 1 dX10_mended_18 rfl rfl ?_
    obtain ⟨v7, hv7, h7⟩ := bnd_some h6
    refine rn_iald (pc := 19) dX10_mended_19 hv7 ?_
    refine rn_goto (pc := 20) (tgt := 24) dX10_mended_20 (by decide) ?_
    cases h7
    exact rn_iret (pc := 24) rfl dX10_mended_24
theorem eX10_mended {l : Launch} {G : Gt} {d : Nat} {t0 : Nat} {p1 : Int32} {u : Mem} {y : Int32} (h : fX10_mended t0 p1 u = some y) : Ex l G iX10_mended (d + 1) [rv (some t0), .int p1] u (.returned (some (.int y))) u := Ex.of (by decide +kernel) (by decide) (Nat.le_of_ble_eq_true rfl) rfl (tX10_mended h)
theorem tX10_about {l : Launch} {G : Gt} {d : Nat} {t0 : Nat} {p1 : Int32} {p2 : Int32} {u : Mem} {y : Int32} (h : fX10_about t0 p1 p2 u = some y) : Rn l G iX10_about (d + 1) 0 [(0, rv (some t0)), (1, .int p1), (2, .int p2)] [] u (.returned (some (.int y))) u := by
  unfold fX10_about at h
  refine rn_aload_n (pc := 0) 0 dX10_about_0 rfl rfl ?_
  obtain ⟨v1, hv1, h1⟩ := bnd_some h
  refine rn_getR (pc := 1) (k := 3) okX10 (by decide) tw_430 rfl dX10_about_1 hv1 ?_
  refine rn_iload_n (pc := 4) 1 dX10_about_4 rfl rfl ?_
  obtain ⟨b2, hb2, h2⟩ := bnd_some h1
  obtain ⟨qb2, kb2⟩ := chk_elim hb2
  subst qb2
  obtain ⟨v3, hv3, h3⟩ := bnd_some h2
  refine rn_callV (pc := 5) (n := 1) (As := [.int p1]) (rest := []) (eX0_hasQuestion (d := d + 0) hv3) (by omega) okX0 kb2 tw_588 tw_72 tw_585 tw_586 tw_587 (by decide +kernel) rfl (Nat.le_of_ble_eq_true rfl) dX10_about_5 rfl ?_
  rcases if_elim h3 with ⟨c4, h4⟩ | ⟨c4, h4⟩
  · refine rn_zne_f (pc := 8) 13 dX10_about_8 (by decide) c4 ?_
    refine rn_iconst (pc := 11) (v := -1) dX10_about_11 (by decide) ?_
    cases h4
    exact rn_iret (pc := 12) rfl dX10_about_12
  · refine rn_zne_t (pc := 8) (tgt := 13) dX10_about_8 (by decide) c4 ?_
    refine rn_aload_n (pc := 13) 0 dX10_about_13 rfl rfl ?_
    obtain ⟨v5, hv5, h5⟩ := bnd_some h4
    refine rn_getR (pc := 14) (k := 3) okX10 (by decide) tw_430 rfl dX10_about_14 hv5 ?_
    obtain ⟨v6, hv6, h6⟩ := bnd_some h5
    refine rn_getR (pc := 17) (k := 0) okX0 (by decide) tw_258 rfl dX10_about_17 hv6 ?_
    refine rn_iload_n (pc := 20) 1 dX10_about_20 rfl rfl ?_
    obtain ⟨v7, hv7, h7⟩ := bnd_some h6
    refine rn_aald24 (pc := 21) dX10_about_21 hv7 ?_
    refine rn_astore_n (pc := 22) (lv' := [(3, rv v7), (0, rv (some t0)), (1, .int p1), (2, .int p2)]) dX10_about_22 rfl (by decide) rfl ?_
    refine rn_iload_n (pc := 23) 3 dX10_about_23 rfl rfl ?_
    rcases if_elim h7 with ⟨c8, h8⟩ | ⟨c8, h8⟩
    · refine rn_tsw_in (pc := 24) (tgt := 60) (off := 36) 0 dX10_about_24 c8 (by decide) (by decide) ?_
      refine rn_aload_n (pc := 60) 0 dX10_about_60 rfl rfl ?_
      obtain ⟨v9, hv9, h9⟩ := bnd_some h8
      refine rn_getI (pc := 61) (k := 0) okX5 (by decide) tw_231 rfl dX10_about_61 hv9 ?_
      cases h9
      exact rn_iret (pc := 64) rfl dX10_about_64
    · skip
      rcases if_elim h8 with ⟨c10, h10⟩ | ⟨c10, h10⟩
      · refine rn_tsw_in (pc := 24) (tgt := 65) (off := 41) 1 dX10_about_24 c10 (by decide) (by decide) ?_
        refine rn_aload_n (pc := 65) 0 dX10_about_65 rfl rfl ?_
        obtain ⟨v11, hv11, h11⟩ := bnd_some h10
        refine rn_getI (pc := 66) (k := 1) okX5 (by decide) tw_234 rfl dX10_about_66 hv11 ?_
        cases h11
        exact rn_iret (pc := 69) rfl dX10_about_69
      · skip
        rcases if_elim h10 with ⟨c12, h12⟩ | ⟨c12, h12⟩
        · refine rn_tsw_in (pc := 24) (tgt := 70) (off := 46) 2 dX10_about_24 c12 (by decide) (by decide) ?_
          refine rn_aload_n (pc := 70) 0 dX10_about_70 rfl rfl ?_
          obtain ⟨v13, hv13, h13⟩ := bnd_some h12
          refine rn_getI (pc := 71) (k := 2) okX5 (by decide) tw_238 rfl dX10_about_71 hv13 ?_
          cases h13
          exact rn_iret (pc := 74) rfl dX10_about_74
        · skip
          rcases if_elim h12 with ⟨c14, h14⟩ | ⟨c14, h14⟩
          · refine rn_tsw_in (pc := 24) (tgt := 75) (off := 51) 3 dX10_about_24 c14 (by decide) (by decide) ?_
            refine rn_aload_n (pc := 75) 0 dX10_about_75 rfl rfl ?_
            obtain ⟨v15, hv15, h15⟩ := bnd_some h14
            refine rn_getI (pc := 76) (k := 3) okX5 (by decide) tw_241 rfl dX10_about_76 hv15 ?_
            cases h15
            exact rn_iret (pc := 79) rfl dX10_about_79
          · skip
            rcases if_elim h14 with ⟨c16, h16⟩ | ⟨c16, h16⟩
            · refine rn_tsw_in (pc := 24) (tgt := 80) (off := 56) 4 dX10_about_24 c16 (by decide) (by decide) ?_
              refine rn_aload_n (pc := 80) 0 dX10_about_80 rfl rfl ?_
              obtain ⟨v17, hv17, h17⟩ := bnd_some h16
              refine rn_getI (pc := 81) (k := 4) okX5 (by decide) tw_243 rfl dX10_about_81 hv17 ?_
              cases h17
              exact rn_iret (pc := 84) rfl dX10_about_84
            · skip
              refine rn_tsw_out (pc := 24) (tgt := 85) dX10_about_24 (sw_out (n := 4) (lt_s (lt_s (lt_s (lt_s (lt_s (lt_0) c8) c10) c12) c14) c16)) (by decide) ?_
              refine rn_iconst (pc := 85) (v := -1) dX10_about_85 (by decide) ?_
              cases h16
              exact rn_iret (pc := 86) rfl dX10_about_86
theorem eX10_about {l : Launch} {G : Gt} {d : Nat} {t0 : Nat} {p1 : Int32} {p2 : Int32} {u : Mem} {y : Int32} (h : fX10_about t0 p1 p2 u = some y) : Ex l G iX10_about (d + 1) [rv (some t0), .int p1, .int p2] u (.returned (some (.int y))) u := Ex.of (by decide +kernel) (by decide) (Nat.le_of_ble_eq_true rfl) rfl (tX10_about h)
theorem tX10_count {l : Launch} {G : Gt} {d : Nat} {t0 : Nat} {p1 : Int32} {u : Mem} {y : Int32 × Mem} (h : fX10_count t0 p1 u = some y) : Rn l G iX10_count (d + 4) 0 [(0, rv (some t0)), (1, .int p1)] [] u (.returned (some (.int y.1))) y.2 := by
  unfold fX10_count at h
  refine rn_iload_n (pc := 0) 1 dX10_count_0 rfl rfl ?_
  rcases if_elim h with ⟨c1, h1⟩ | ⟨c1, h1⟩
  · refine rn_tsw_in (pc := 1) (tgt := 36) (off := 35) 0 dX10_count_1 c1 (by decide) (by decide) ?_
    refine rn_aload_n (pc := 36) 0 dX10_count_36 rfl rfl ?_
    obtain ⟨v2, hv2, h2⟩ := bnd_some h1
    refine rn_getR (pc := 37) (k := 3) okX10 (by decide) tw_430 rfl dX10_count_37 hv2 ?_
    obtain ⟨v3, hv3, h3⟩ := bnd_some h2
    refine rn_getI (pc := 40) (k := 3) okX0 (by decide) tw_267 rfl dX10_count_40 hv3 ?_
    cases h3
    exact rn_iret (pc := 43) rfl dX10_count_43
  · skip
    rcases if_elim h1 with ⟨c4, h4⟩ | ⟨c4, h4⟩
    · refine rn_tsw_in (pc := 1) (tgt := 44) (off := 43) 1 dX10_count_1 c4 (by decide) (by decide) ?_
      refine rn_aload_n (pc := 44) 0 dX10_count_44 rfl rfl ?_
      obtain ⟨v5, hv5, h5⟩ := bnd_some h4
      refine rn_getR (pc := 45) (k := 3) okX10 (by decide) tw_430 rfl dX10_count_45 hv5 ?_
      obtain ⟨v6, hv6, h6⟩ := bnd_some h5
      refine rn_getI (pc := 48) (k := 4) okX0 (by decide) tw_270 rfl dX10_count_48 hv6 ?_
      cases h6
      exact rn_iret (pc := 51) rfl dX10_count_51
    · skip
      rcases if_elim h4 with ⟨c7, h7⟩ | ⟨c7, h7⟩
      · refine rn_tsw_in (pc := 1) (tgt := 52) (off := 51) 2 dX10_count_1 c7 (by decide) (by decide) ?_
        refine rn_aload_n (pc := 52) 0 dX10_count_52 rfl rfl ?_
        obtain ⟨v8, hv8, h8⟩ := bnd_some h7
        refine rn_getR (pc := 53) (k := 6) okX10 (by decide) tw_433 rfl dX10_count_53 hv8 ?_
        obtain ⟨v9, hv9, h9⟩ := bnd_some h8
        refine rn_getI (pc := 56) (k := 3) okX9 (by decide) tw_376 rfl dX10_count_56 hv9 ?_
        cases h9
        exact rn_iret (pc := 59) rfl dX10_count_59
      · skip
        rcases if_elim h7 with ⟨c10, h10⟩ | ⟨c10, h10⟩
        · refine rn_tsw_in (pc := 1) (tgt := 60) (off := 59) 3 dX10_count_1 c10 (by decide) (by decide) ?_
          refine rn_aload_n (pc := 60) 0 dX10_count_60 rfl rfl ?_
          obtain ⟨v11, hv11, h11⟩ := bnd_some h10
          refine rn_getR (pc := 61) (k := 0) okX10 (by decide) tw_427 rfl dX10_count_61 hv11 ?_
          obtain ⟨v12, hv12, h12⟩ := bnd_some h11
          refine rn_getI (pc := 64) (k := 1) okX8 (by decide) tw_106 rfl dX10_count_64 hv12 ?_
          cases h12
          exact rn_iret (pc := 67) rfl dX10_count_67
        · skip
          rcases if_elim h10 with ⟨c13, h13⟩ | ⟨c13, h13⟩
          · refine rn_tsw_in (pc := 1) (tgt := 68) (off := 67) 4 dX10_count_1 c13 (by decide) (by decide) ?_
            refine rn_aload_n (pc := 68) 0 dX10_count_68 rfl rfl ?_
            obtain ⟨v14, hv14, h14⟩ := bnd_some h13
            refine rn_getR (pc := 69) (k := 4) okX10 (by decide) tw_431 rfl dX10_count_69 hv14 ?_
            obtain ⟨b15, hb15, h15⟩ := bnd_some h14
            obtain ⟨qb15, kb15⟩ := chk_elim hb15
            subst qb15
            obtain ⟨u16, hu16, h16⟩ := bnd_some h15
            refine rn_callV (pc := 72) (n := 0) (As := []) (rest := []) (eX1_refresh (d := d + 0) hu16) (by omega) okX1 kb15 tw_665 tw_74 tw_662 tw_663 tw_664 (by decide +kernel) rfl (Nat.le_of_ble_eq_true rfl) dX10_count_72 rfl ?_
            refine rn_aload_n (pc := 75) 0 dX10_count_75 rfl rfl ?_
            obtain ⟨v17, hv17, h17⟩ := bnd_some h16
            refine rn_getR (pc := 76) (k := 4) okX10 (by decide) tw_431 rfl dX10_count_76 hv17 ?_
            obtain ⟨b18, hb18, h18⟩ := bnd_some h17
            obtain ⟨qb18, kb18⟩ := chk_elim hb18
            subst qb18
            obtain ⟨v19, hv19, h19⟩ := bnd_some h18
            refine rn_callV (pc := 79) (n := 0) (As := []) (rest := []) (eX1_guessersWithMean (d := d + 2) hv19) (by omega) okX1 kb18 tw_936 tw_74 tw_933 tw_934 tw_935 (by decide +kernel) rfl (Nat.le_of_ble_eq_true rfl) dX10_count_79 rfl ?_
            cases h19
            exact rn_iret (pc := 82) rfl dX10_count_82
          · skip
            refine rn_tsw_out (pc := 1) (tgt := 83) dX10_count_1 (sw_out (n := 4) (lt_s (lt_s (lt_s (lt_s (lt_s (lt_0) c1) c4) c7) c10) c13)) (by decide) ?_
            refine rn_iconst (pc := 83) (v := -1) dX10_count_83 (by decide) ?_
            cases h13
            exact rn_iret (pc := 84) rfl dX10_count_84
theorem eX10_count {l : Launch} {G : Gt} {d : Nat} {t0 : Nat} {p1 : Int32} {u : Mem} {y : Int32 × Mem} (h : fX10_count t0 p1 u = some y) : Ex l G iX10_count (d + 4) [rv (some t0), .int p1] u (.returned (some (.int y.1))) y.2 := Ex.of (by decide +kernel) (by decide) (Nat.le_of_ble_eq_true rfl) rfl (tX10_count h)
