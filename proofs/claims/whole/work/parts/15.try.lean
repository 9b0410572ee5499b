abbrev iX10_cell : MI := (yX10_cell, cX10_cell, 2, (some .int))
def fX10_cell (p0 : Int32) (p1 : Int32) (u : Mem) : Option (Int32) :=
  some ((p0 * (20 : Int32)) + p1)
abbrev iX0_latestUpTo : MI := (yX0_latestUpTo, cX0_latestUpTo, 4, (some (.object "ForeBook$Guess")))
def bX0_latestUpTo_7 (i2 : Int32) (u : Mem) (s3 : Option Nat) : Option ((Option Nat) ⊕ (Option Nat)) :=
  if s3 = none then
    some (.inr s3)
  else
    (gfI u s3 3 2).bind fun v4 =>
    if i2 < v4 then
      (gfR u s3 3 4).bind fun v6 =>
      some (.inl v6)
    else
      some (.inr s3)
def fX0_latestUpTo (t0 : Nat) (p1 : Int32) (p2 : Int32) (u : Mem) : Option (Option Nat) :=
  (gfR u (some t0) 0 1).bind fun v1 =>
  (alR u v1 25 p1).bind fun v2 =>
  (lp (fun s : Option Nat => bX0_latestUpTo_7 p2 u s) FU v2).bind fun r7 =>
  some r7
abbrev iX0_heldTenth : MI := (yX0_heldTenth, cX0_heldTenth, 5, (some .int))
def fX0_heldTenth (t0 : Nat) (p1 : Int32) (p2 : Int32) (p3 : Int32) (u : Mem) : Option (Int32) :=
  (fX10_cell p1 p2 u).bind fun v1 =>
  (chk u (some t0) 0).bind fun b2 =>
  (fX0_latestUpTo t0 v1 p3 u).bind fun v3 =>
  if v3 = none then
    some (-1 : Int32)
  else
    (gfI u v3 3 3).bind fun v5 =>
    some v5
abbrev iX0_hasQuestion : MI := (yX0_hasQuestion, cX0_hasQuestion, 2, (some .boolean))
def fX0_hasQuestion (t0 : Nat) (p1 : Int32) (u : Mem) : Option (Int32) :=
  if p1 < 0 then
    some (0 : Int32)
  else
    (gfI u (some t0) 0 3).bind fun v2 =>
    if p1 < v2 then
      some (1 : Int32)
    else
      some (0 : Int32)
abbrev iX0_hasLaterGuess : MI := (yX0_hasLaterGuess, cX0_hasLaterGuess, 5, (some .boolean))
def fX0_hasLaterGuess (t0 : Nat) (p1 : Int32) (p2 : Int32) (p3 : Int32) (u : Mem) : Option (Int32) :=
  (gfR u (some t0) 0 1).bind fun v1 =>
  (fX10_cell p1 p2 u).bind fun v2 =>
  (alR u v1 25 v2).bind fun v3 =>
  if v3 = none then
    some (0 : Int32)
  else
    (gfI u v3 3 2).bind fun v5 =>
    if p3 < v5 then
      some (1 : Int32)
    else
      some (0 : Int32)
abbrev iX3_init : MI := (yX3_init, cX3_init, 6, (Option.none : Option FieldType))
def fX3_init (t0 : Nat) (p1 : Int32) (p2 : Int32) (p3 : Int32) (p4 : Int32) (p5 : Option Nat) (u : Mem) : Option (Mem) :=
  (pfI u (some t0) 3 0 p1).bind fun u1 =>
  (pfI u1 (some t0) 3 1 p2).bind fun u2 =>
  (pfI u2 (some t0) 3 2 p3).bind fun u3 =>
  (pfI u3 (some t0) 3 3 p4).bind fun u4 =>
  (pfR u4 (some t0) 3 4 p5).bind fun u5 =>
  some u5
abbrev iX0_addGuess : MI := (yX0_addGuess, cX0_addGuess, 8, (some .int))
def bX0_addGuess_46 (t0 : Nat) (i2 : Int32) (i3 : Int32) (i5 : Int32) (t6 : Nat) (s7 : Int32) (u : Mem) : Option ((Int32 × Mem) ⊕ (Int32 × Mem)) :=
  if 0 < s7 then
    (gfR u (some t0) 0 2).bind fun v12 =>
    (alR u v12 25 (s7 - (1 : Int32))).bind fun v13 =>
    (gfI u v13 3 2).bind fun v14 =>
    if i3 < v14 then
      (gfR u (some t0) 0 2).bind fun v16 =>
      (gfR u (some t0) 0 2).bind fun v17 =>
      (alR u v17 25 (s7 - (1 : Int32))).bind fun v18 =>
      (asR u v16 25 3 s7 v18).bind fun u19 =>
      nm (s7 + (-1) : Int32) fun x20 =>
      some (.inl (x20, u19))
    else
      some (.inr (s7, u))
  else
    some (.inr (s7, u))
def jX0_addGuess_89 (t0 : Nat) (p2 : Int32) (p5 : Int32) (t6 : Nat) (p7 : Int32) (u : Mem) : Option (Int32 × Mem) :=
  (gfR u (some t0) 0 2).bind fun v22 =>
  (asR u v22 25 3 p7 (some t6)).bind fun u23 =>
  (gfR u23 (some t0) 0 0).bind fun v24 =>
  (alR u23 v24 24 p2).bind fun v25 =>
  (gfI u23 v25 5 4).bind fun v26 =>
  (pfI u23 v25 5 4 (v26 + (1 : Int32))).bind fun u27 =>
  (gfI u27 (some t0) 0 4).bind fun v28 =>
  (pfI u27 (some t0) 0 4 (v28 + (1 : Int32))).bind fun u29 =>
  (gfI u29 (some t0) 0 5).bind fun v30 =>
  (pfI u29 (some t0) 0 5 (v30 + (1 : Int32))).bind fun u31 =>
  some (p5, u31)
def fX0_addGuess (t0 : Nat) (p1 : Int32) (p2 : Int32) (p3 : Int32) (p4 : Int32) (u : Mem) : Option (Int32 × Mem) :=
  (gfI u (some t0) 0 4).bind fun v1 =>
  bnd2 (nwc u 3 5) fun a2 u3 =>
  (gfR u3 (some t0) 0 1).bind fun v4 =>
  (fX10_cell p1 p2 u3).bind fun v5 =>
  (alR u3 v4 25 v5).bind fun v6 =>
  (fX3_init a2 p1 p2 p3 p4 v6 u3).bind fun u7 =>
  (gfR u7 (some t0) 0 1).bind fun v8 =>
  (fX10_cell p1 p2 u7).bind fun v9 =>
  (asR u7 v8 25 3 v9 (some a2)).bind fun u10 =>
  (lp (fun s : Int32 × Mem => bX0_addGuess_46 t0 p2 p3 v1 a2 s.1 s.2) FU (v1, u10)).bind fun r21 =>
  jX0_addGuess_89 t0 p2 v1 a2 r21.1 r21.2
abbrev iX0_addQuestion : MI := (yX0_addQuestion, cX0_addQuestion, 4, (some .int))
def fX0_addQuestion (t0 : Nat) (p1 : Int32) (p2 : Int32) (u : Mem) : Option (Int32 × Mem) :=
  (gfI u (some t0) 0 3).bind fun v1 =>
  (gfR u (some t0) 0 0).bind fun v2 =>
  (alR u v2 24 v1).bind fun v3 =>
  (pfI u v3 5 0 p1).bind fun u4 =>
  (gfR u4 (some t0) 0 0).bind fun v5 =>
  (alR u4 v5 24 v1).bind fun v6 =>
  (pfI u4 v6 5 1 p2).bind fun u7 =>
  (gfI u7 (some t0) 0 3).bind fun v8 =>
  (pfI u7 (some t0) 0 3 (v8 + (1 : Int32))).bind fun u9 =>
  (gfI u9 (some t0) 0 5).bind fun v10 =>
  (pfI u9 (some t0) 0 5 (v10 + (1 : Int32))).bind fun u11 =>
  some (v1, u11)
abbrev iX5_init : MI := (yX5_init, cX5_init, 1, (Option.none : Option FieldType))
def fX5_init (t0 : Nat) (u : Mem) : Option (Mem) :=
  (pfI u (some t0) 5 2 (3 : Int32)).bind fun u1 =>
  (pfI u1 (some t0) 5 3 (-1 : Int32)).bind fun u2 =>
  some u2
abbrev iX5_isSettled : MI := (yX5_isSettled, cX5_isSettled, 1, (some .boolean))
def fX5_isSettled (t0 : Nat) (u : Mem) : Option (Int32) :=
  (gfI u (some t0) 5 2).bind fun v1 =>
  if v1 = 0 then
    some (1 : Int32)
  else
    (gfI u (some t0) 5 2).bind fun v3 =>
    if v3 = (1 : Int32) then
      some (1 : Int32)
    else
      some (0 : Int32)
theorem tX10_cell {l : Launch} {G : Gt} {d : Nat} {p0 : Int32} {p1 : Int32} {u : Mem} {y : Int32} (h : fX10_cell p0 p1 u = some y) : Rn l G iX10_cell d 0 [(0, .int p0), (1, .int p1)] [] u (.returned (some (.int y))) u := by
  unfold fX10_cell at h
  refine rn_iload_n (pc := 0) 0 dX10_cell_0 rfl rfl ?_
  refine rn_bipush (pc := 1) (v := 20) dX10_cell_1 (by decide) ?_
  refine rn_imul (pc := 3) dX10_cell_3 ?_
  refine rn_iload_n (pc := 4) 1 dX10_cell_4 rfl rfl ?_
  refine rn_iadd (pc := 5) dX10_cell_5 ?_
  cases h
  exact rn_iret (pc := 6) rfl dX10_cell_6
theorem eX10_cell {l : Launch} {G : Gt} {d : Nat} {p0 : Int32} {p1 : Int32} {u : Mem} {y : Int32} (h : fX10_cell p0 p1 u = some y) : Ex l G iX10_cell d [.int p0, .int p1] u (.returned (some (.int y))) u := Ex.of (by decide +kernel) (by decide) (Nat.le_of_ble_eq_true rfl) rfl (tX10_cell h)
theorem btX0_latestUpTo_7 {l : Launch} {G : Gt} {d : Nat} {i2 : Int32} {u : Mem} {s3 : Option Nat} {y : (Option Nat) ⊕ (Option Nat)} {o : Outcome} {u' : Mem} (h : bX0_latestUpTo_7 i2 u s3 = some y) (k0 : ∀ s' : Option Nat, y = .inl s' → Rn l G iX0_latestUpTo d 7 [(2, .int i2), (3, rv s')] [] u o u') (k1 : ∀ r : Option Nat, y = .inr (r) → Rn l G iX0_latestUpTo d 27 [(3, rv r)] [] u o u') : Rn l G iX0_latestUpTo d 7 [(2, .int i2), (3, rv s3)] [] u o u' := by
  unfold bX0_latestUpTo_7 at h
  refine rn_aload_n (pc := 7) 1 dX0_latestUpTo_7 rfl rfl ?_
  rcases if_elim h with ⟨c3, h⟩ | ⟨c3, h⟩
  · refine rn_ifnull_t (pc := 8) (tgt := 27) dX0_latestUpTo_8 (by decide) c3 ?_
    cases h
    exact rn_sub [1] rfl (k1 _ rfl)
  · refine rn_ifnull_f (pc := 8) dX0_latestUpTo_8 c3 ?_
    refine rn_aload_n (pc := 11) 1 dX0_latestUpTo_11 rfl rfl ?_
    obtain ⟨v4, hv4, h⟩ := bnd_some h
    refine rn_getI (pc := 12) (k := 2) okX3 (by decide) tw_621 rfl dX0_latestUpTo_12 hv4 ?_
    refine rn_iload_n (pc := 15) 0 dX0_latestUpTo_15 rfl rfl ?_
    rcases if_elim h with ⟨c5, h⟩ | ⟨c5, h⟩
    · refine rn_ile_f (pc := 16) 27 dX0_latestUpTo_16 (by decide) c5 ?_
      refine rn_aload_n (pc := 19) 1 dX0_latestUpTo_19 rfl rfl ?_
      obtain ⟨v6, hv6, h⟩ := bnd_some h
      refine rn_getR (pc := 20) (k := 4) okX3 (by decide) tw_628 rfl dX0_latestUpTo_20 hv6 ?_
      refine rn_astore_n (pc := 23) (lv' := [(3, rv v6), (2, .int i2)]) dX0_latestUpTo_23 rfl (by decide) rfl ?_
      refine rn_goto (pc := 24) (tgt := 7) dX0_latestUpTo_24 (by decide) ?_
      cases h
      exact rn_sub [1, 0] rfl (k0 _ rfl)
    · refine rn_ile_t (pc := 16) (tgt := 27) dX0_latestUpTo_16 (by decide) c5 ?_
      cases h
      exact rn_sub [1] rfl (k1 _ rfl)
theorem lX0_latestUpTo_7 {l : Launch} {G : Gt} {d : Nat} {i2 : Int32} {u : Mem} {N : Nat} {s0 : Option Nat} {r : Option Nat} {o : Outcome} {u' : Mem} (h : lp (fun s : Option Nat => bX0_latestUpTo_7 i2 u s) N s0 = some r) (k1 : Rn l G iX0_latestUpTo d 27 [(3, rv r)] [] u o u') : Rn l G iX0_latestUpTo d 7 [(2, .int i2), (3, rv s0)] [] u o u' :=
  lp_run (P := fun s : Option Nat => Rn l G iX0_latestUpTo d 7 [(2, .int i2), (3, rv s)] [] u o u') (E := fun r => Rn l G iX0_latestUpTo d 27 [(3, rv r)] [] u o u') (fun s y hy k0 kE => btX0_latestUpTo_7 hy (fun s' e => k0 s' e) (fun r e => kE r e)) N s0 r h k1
theorem tX0_latestUpTo {l : Launch} {G : Gt} {d : Nat} {t0 : Nat} {p1 : Int32} {p2 : Int32} {u : Mem} {y : Option Nat} (h : fX0_latestUpTo t0 p1 p2 u = some y) : Rn l G iX0_latestUpTo d 0 [(0, rv (some t0)), (1, .int p1), (2, .int p2)] [] u (.returned (some (rv y))) u := by
  unfold fX0_latestUpTo at h
  refine rn_aload_n (pc := 0) 0 dX0_latestUpTo_0 rfl rfl ?_
  obtain ⟨v1, hv1, h⟩ := bnd_some h
  refine rn_getR (pc := 1) (k := 1) okX0 (by decide) tw_259 rfl dX0_latestUpTo_1 hv1 ?_
  refine rn_iload_n (pc := 4) 1 dX0_latestUpTo_4 rfl rfl ?_
  obtain ⟨v2, hv2, h⟩ := bnd_some h
  refine rn_aald25 (pc := 5) dX0_latestUpTo_5 hv2 ?_
  refine rn_astore_n (pc := 6) (lv' := [(3, rv v2), (0, rv (some t0)), (1, .int p1), (2, .int p2)]) dX0_latestUpTo_6 rfl (by decide) rfl ?_
  obtain ⟨r7, hr7, h⟩ := bnd_some h
  refine rn_sub [3, 0] rfl (lX0_latestUpTo_7  hr7 ?_)
  refine rn_aload_n (pc := 27) 0 dX0_latestUpTo_27 rfl rfl ?_
  cases h
  exact rn_aret (pc := 28) rfl dX0_latestUpTo_28
theorem eX0_latestUpTo {l : Launch} {G : Gt} {d : Nat} {t0 : Nat} {p1 : Int32} {p2 : Int32} {u : Mem} {y : Option Nat} (h : fX0_latestUpTo t0 p1 p2 u = some y) : Ex l G iX0_latestUpTo d [rv (some t0), .int p1, .int p2] u (.returned (some (rv y))) u := Ex.of (by decide +kernel) (by decide) (Nat.le_of_ble_eq_true rfl) rfl (tX0_latestUpTo h)
theorem tX0_heldTenth {l : Launch} {G : Gt} {d : Nat} {t0 : Nat} {p1 : Int32} {p2 : Int32} {p3 : Int32} {u : Mem} {y : Int32} (h : fX0_heldTenth t0 p1 p2 p3 u = some y) : Rn l G iX0_heldTenth (d + 1) 0 [(0, rv (some t0)), (1, .int p1), (2, .int p2), (3, .int p3)] [] u (.returned (some (.int y))) u := by
  unfold fX0_heldTenth at h
  refine rn_aload_n (pc := 0) 0 dX0_heldTenth_0 rfl rfl ?_
  refine rn_iload_n (pc := 1) 1 dX0_heldTenth_1 rfl rfl ?_
  refine rn_iload_n (pc := 2) 2 dX0_heldTenth_2 rfl rfl ?_
  obtain ⟨v1, hv1, h⟩ := bnd_some h
  refine rn_callSN (pc := 3) (host := "ForeBook") (n := 2) (As := [.int p1, .int p2]) (rest := [rv (some t0)]) (eX10_cell (d := d + 0) hv1) (by omega) tw_604 tw_68 (by decide +kernel) tw_603 (by decide +kernel) rfl (Nat.le_of_ble_eq_true rfl) dX0_heldTenth_3 rfl ?_
  refine rn_iload_n (pc := 6) 3 dX0_heldTenth_6 rfl rfl ?_
  obtain ⟨b2, hb2, h⟩ := bnd_some h
  obtain ⟨qb2, hb2⟩ := chk_elim hb2
  cases qb2
  obtain ⟨v3, hv3, h⟩ := bnd_some h
  refine rn_callV (pc := 7) (n := 2) (As := [.int v1, .int p3]) (rest := []) (eX0_latestUpTo (d := d + 0) hv3) (by omega) okX0 hb2 tw_651 tw_72 tw_648 tw_649 tw_650 (by decide +kernel) rfl (Nat.le_of_ble_eq_true rfl) dX0_heldTenth_7 rfl ?_
  refine rn_astore (pc := 10) (lv' := [(4, rv v3), (0, rv (some t0)), (1, .int p1), (2, .int p2), (3, .int p3)]) dX0_heldTenth_10 (by decide) rfl ?_
  refine rn_aload (pc := 12) 0 dX0_heldTenth_12 rfl ?_
  rcases if_elim h with ⟨c4, h⟩ | ⟨c4, h⟩
  · refine rn_ifnonnull_f (pc := 14) dX0_heldTenth_14 c4 ?_
    refine rn_iconst (pc := 17) (v := -1) dX0_heldTenth_17 (by decide) ?_
    refine rn_goto (pc := 18) (tgt := 26) dX0_heldTenth_18 (by decide) ?_
    cases h
    exact rn_iret (pc := 26) rfl dX0_heldTenth_26
  · refine rn_ifnonnull_t (pc := 14) (tgt := 21) dX0_heldTenth_14 (by decide) c4 ?_
    refine rn_aload (pc := 21) 0 dX0_heldTenth_21 rfl ?_
    obtain ⟨v5, hv5, h⟩ := bnd_some h
    refine rn_getI (pc := 23) (k := 3) okX3 (by decide) tw_625 rfl dX0_heldTenth_23 hv5 ?_
    cases h
    exact rn_iret (pc := 26) rfl dX0_heldTenth_26
theorem eX0_heldTenth {l : Launch} {G : Gt} {d : Nat} {t0 : Nat} {p1 : Int32} {p2 : Int32} {p3 : Int32} {u : Mem} {y : Int32} (h : fX0_heldTenth t0 p1 p2 p3 u = some y) : Ex l G iX0_heldTenth (d + 1) [rv (some t0), .int p1, .int p2, .int p3] u (.returned (some (.int y))) u := Ex.of (by decide +kernel) (by decide) (Nat.le_of_ble_eq_true rfl) rfl (tX0_heldTenth h)
theorem tX0_hasQuestion {l : Launch} {G : Gt} {d : Nat} {t0 : Nat} {p1 : Int32} {u : Mem} {y : Int32} (h : fX0_hasQuestion t0 p1 u = some y) : Rn l G iX0_hasQuestion d 0 [(0, rv (some t0)), (1, .int p1)] [] u (.returned (some (.int y))) u := by
  unfold fX0_hasQuestion at h
  refine rn_iload_n (pc := 0) 1 dX0_hasQuestion_0 rfl rfl ?_
  rcases if_elim h with ⟨c1, h⟩ | ⟨c1, h⟩
  · refine rn_zlt_t (pc := 1) (tgt := 16) dX0_hasQuestion_1 (by decide) c1 ?_
    refine rn_iconst (pc := 16) (v := 0) dX0_hasQuestion_16 (by decide) ?_
    cases h
    exact rn_zret (pc := 17) (by decide) rfl dX0_hasQuestion_17
  · refine rn_zlt_f (pc := 1) 16 dX0_hasQuestion_1 (by decide) c1 ?_
    refine rn_iload_n (pc := 4) 1 dX0_hasQuestion_4 rfl rfl ?_
    refine rn_aload_n (pc := 5) 0 dX0_hasQuestion_5 rfl rfl ?_
    obtain ⟨v2, hv2, h⟩ := bnd_some h
    refine rn_getI (pc := 6) (k := 3) okX0 (by decide) tw_263 rfl dX0_hasQuestion_6 hv2 ?_
    rcases if_elim h with ⟨c3, h⟩ | ⟨c3, h⟩
    · refine rn_ige_f (pc := 9) 16 dX0_hasQuestion_9 (by decide) c3 ?_
      refine rn_iconst (pc := 12) (v := 1) dX0_hasQuestion_12 (by decide) ?_
      refine rn_goto (pc := 13) (tgt := 17) dX0_hasQuestion_13 (by decide) ?_
      cases h
      exact rn_zret (pc := 17) (by decide) rfl dX0_hasQuestion_17
    · refine rn_ige_t (pc := 9) (tgt := 16) dX0_hasQuestion_9 (by decide) c3 ?_
      refine rn_iconst (pc := 16) (v := 0) dX0_hasQuestion_16 (by decide) ?_
      cases h
      exact rn_zret (pc := 17) (by decide) rfl dX0_hasQuestion_17
theorem eX0_hasQuestion {l : Launch} {G : Gt} {d : Nat} {t0 : Nat} {p1 : Int32} {u : Mem} {y : Int32} (h : fX0_hasQuestion t0 p1 u = some y) : Ex l G iX0_hasQuestion d [rv (some t0), .int p1] u (.returned (some (.int y))) u := Ex.of (by decide +kernel) (by decide) (Nat.le_of_ble_eq_true rfl) rfl (tX0_hasQuestion h)
theorem tX0_hasLaterGuess {l : Launch} {G : Gt} {d : Nat} {t0 : Nat} {p1 : Int32} {p2 : Int32} {p3 : Int32} {u : Mem} {y : Int32} (h : fX0_hasLaterGuess t0 p1 p2 p3 u = some y) : Rn l G iX0_hasLaterGuess (d + 1) 0 [(0, rv (some t0)), (1, .int p1), (2, .int p2), (3, .int p3)] [] u (.returned (some (.int y))) u := by
  unfold fX0_hasLaterGuess at h
  refine rn_aload_n (pc := 0) 0 dX0_hasLaterGuess_0 rfl rfl ?_
  obtain ⟨v1, hv1, h⟩ := bnd_some h
  refine rn_getR (pc := 1) (k := 1) okX0 (by decide) tw_259 rfl dX0_hasLaterGuess_1 hv1 ?_
  refine rn_iload_n (pc := 4) 1 dX0_hasLaterGuess_4 rfl rfl ?_
  refine rn_iload_n (pc := 5) 2 dX0_hasLaterGuess_5 rfl rfl ?_
  obtain ⟨v2, hv2, h⟩ := bnd_some h
  refine rn_callSN (pc := 6) (host := "ForeBook") (n := 2) (As := [.int p1, .int p2]) (rest := [rv v1]) (eX10_cell (d := d + 0) hv2) (by omega) tw_604 tw_68 (by decide +kernel) tw_603 (by decide +kernel) rfl (cat_le8 (Nat.le_of_ble_eq_true rfl)) dX0_hasLaterGuess_6 rfl ?_
  obtain ⟨v3, hv3, h⟩ := bnd_some h
  refine rn_aald25 (pc := 9) dX0_hasLaterGuess_9 hv3 ?_
  refine rn_astore (pc := 10) (lv' := [(4, rv v3), (0, rv (some t0)), (1, .int p1), (2, .int p2), (3, .int p3)]) dX0_hasLaterGuess_10 (by decide) rfl ?_
  refine rn_aload (pc := 12) 0 dX0_hasLaterGuess_12 rfl ?_
  rcases if_elim h with ⟨c4, h⟩ | ⟨c4, h⟩
  · refine rn_ifnull_t (pc := 14) (tgt := 30) dX0_hasLaterGuess_14 (by decide) c4 ?_
    refine rn_iconst (pc := 30) (v := 0) dX0_hasLaterGuess_30 (by decide) ?_
    cases h
    exact rn_zret (pc := 31) (by decide) rfl dX0_hasLaterGuess_31
  · refine rn_ifnull_f (pc := 14) dX0_hasLaterGuess_14 c4 ?_
    refine rn_aload (pc := 17) 0 dX0_hasLaterGuess_17 rfl ?_
    obtain ⟨v5, hv5, h⟩ := bnd_some h
    refine rn_getI (pc := 19) (k := 2) okX3 (by decide) tw_621 rfl dX0_hasLaterGuess_19 hv5 ?_
    refine rn_iload_n (pc := 22) 4 dX0_hasLaterGuess_22 rfl rfl ?_
    rcases if_elim h with ⟨c6, h⟩ | ⟨c6, h⟩
    · refine rn_ile_f (pc := 23) 30 dX0_hasLaterGuess_23 (by decide) c6 ?_
      refine rn_iconst (pc := 26) (v := 1) dX0_hasLaterGuess_26 (by decide) ?_
      refine rn_goto (pc := 27) (tgt := 31) dX0_hasLaterGuess_27 (by decide) ?_
      cases h
      exact rn_zret (pc := 31) (by decide) rfl dX0_hasLaterGuess_31
    · refine rn_ile_t (pc := 23) (tgt := 30) dX0_hasLaterGuess_23 (by decide) c6 ?_
      refine rn_iconst (pc := 30) (v := 0) dX0_hasLaterGuess_30 (by decide) ?_
      cases h
      exact rn_zret (pc := 31) (by decide) rfl dX0_hasLaterGuess_31
theorem eX0_hasLaterGuess {l : Launch} {G : Gt} {d : Nat} {t0 : Nat} {p1 : Int32} {p2 : Int32} {p3 : Int32} {u : Mem} {y : Int32} (h : fX0_hasLaterGuess t0 p1 p2 p3 u = some y) : Ex l G iX0_hasLaterGuess (d + 1) [rv (some t0), .int p1, .int p2, .int p3] u (.returned (some (.int y))) u := Ex.of (by decide +kernel) (by decide) (Nat.le_of_ble_eq_true rfl) rfl (tX0_hasLaterGuess h)
theorem tX3_init {l : Launch} {G : Gt} {d : Nat} {t0 : Nat} {p1 : Int32} {p2 : Int32} {p3 : Int32} {p4 : Int32} {p5 : Option Nat} {u : Mem} {y : Mem} (h : fX3_init t0 p1 p2 p3 p4 p5 u = some y) : Rn l G iX3_init (d + 1) 0 [(0, rv (some t0)), (1, .int p1), (2, .int p2), (3, .int p3), (4, .int p4), (5, rv p5)] [] u (.returned none) y := by
  unfold fX3_init at h
  refine rn_aload_n (pc := 0) 0 dX3_init_0 rfl rfl ?_
  refine rn_objInit (pc := 1) (by omega) tw_613 tw_97 tw_98 (by decide) dX3_init_1 ?_
  refine rn_aload_n (pc := 4) 0 dX3_init_4 rfl rfl ?_
  refine rn_iload_n (pc := 5) 1 dX3_init_5 rfl rfl ?_
  obtain ⟨u1, hu1, h⟩ := bnd_some h
  refine rn_putI (pc := 6) (k := 0) okX3 (by decide) tw_614 (Or.inr ⟨rfl, rfl, rfl⟩) (Or.inl rfl) dX3_init_6 hu1 ?_
  refine rn_aload_n (pc := 9) 0 dX3_init_9 rfl rfl ?_
  refine rn_iload_n (pc := 10) 2 dX3_init_10 rfl rfl ?_
  obtain ⟨u2, hu2, h⟩ := bnd_some h
  refine rn_putI (pc := 11) (k := 1) okX3 (by decide) tw_616 (Or.inr ⟨rfl, rfl, rfl⟩) (Or.inl rfl) dX3_init_11 hu2 ?_
  refine rn_aload_n (pc := 14) 0 dX3_init_14 rfl rfl ?_
  refine rn_iload_n (pc := 15) 3 dX3_init_15 rfl rfl ?_
  obtain ⟨u3, hu3, h⟩ := bnd_some h
  refine rn_putI (pc := 16) (k := 2) okX3 (by decide) tw_618 (Or.inr ⟨rfl, rfl, rfl⟩) (Or.inl rfl) dX3_init_16 hu3 ?_
  refine rn_aload_n (pc := 19) 0 dX3_init_19 rfl rfl ?_
  refine rn_iload (pc := 20) 4 dX3_init_20 rfl ?_
  obtain ⟨u4, hu4, h⟩ := bnd_some h
  refine rn_putI (pc := 22) (k := 3) okX3 (by decide) tw_622 (Or.inr ⟨rfl, rfl, rfl⟩) (Or.inl rfl) dX3_init_22 hu4 ?_
  refine rn_aload_n (pc := 25) 0 dX3_init_25 rfl rfl ?_
  refine rn_aload (pc := 26) 5 dX3_init_26 rfl ?_
  obtain ⟨u5, hu5, h⟩ := bnd_some h
  refine rn_putR (pc := 28) (k := 4) okX3 (by decide) tw_626 (Or.inr ⟨rfl, rfl, rfl⟩) rfl dX3_init_28 hu5 ?_
  cases h
  exact rn_vret (pc := 31) rfl dX3_init_31
theorem eX3_init {l : Launch} {G : Gt} {d : Nat} {t0 : Nat} {p1 : Int32} {p2 : Int32} {p3 : Int32} {p4 : Int32} {p5 : Option Nat} {u : Mem} {y : Mem} (h : fX3_init t0 p1 p2 p3 p4 p5 u = some y) : Ex l G iX3_init (d + 1) [rv (some t0), .int p1, .int p2, .int p3, .int p4, rv p5] u (.returned none) y := Ex.of (by decide +kernel) (by decide) (by cases p5 <;> exact Nat.le_of_ble_eq_true rfl) (by cases p5 <;> rfl) (tX3_init h)
theorem btX0_addGuess_46 {l : Launch} {G : Gt} {d : Nat} {t0 : Nat} {i2 : Int32} {i3 : Int32} {i5 : Int32} {t6 : Nat} {s7 : Int32} {u : Mem} {y : (Int32 × Mem) ⊕ (Int32 × Mem)} {o : Outcome} {u' : Mem} (h : bX0_addGuess_46 t0 i2 i3 i5 t6 s7 u = some y) (k0 : ∀ s' : Int32 × Mem, y = .inl s' → Rn l G iX0_addGuess (d + 2) 46 [(0, rv (some t0)), (2, .int i2), (3, .int i3), (5, .int i5), (6, rv (some t6)), (7, .int s'.1)] [] s'.2 o u') (k1 : ∀ r : Int32 × Mem, y = .inr (r) → Rn l G iX0_addGuess (d + 2) 89 [(0, rv (some t0)), (2, .int i2), (5, .int i5), (6, rv (some t6)), (7, .int r.1)] [] r.2 o u') : Rn l G iX0_addGuess (d + 2) 46 [(0, rv (some t0)), (2, .int i2), (3, .int i3), (5, .int i5), (6, rv (some t6)), (7, .int s7)] [] u o u' := by
  unfold bX0_addGuess_46 at h
  refine rn_iload (pc := 46) 5 dX0_addGuess_46 rfl ?_
  rcases if_elim h with ⟨c11, h⟩ | ⟨c11, h⟩
  · refine rn_zle_f (pc := 48) 89 dX0_addGuess_48 (by decide) c11 ?_
    refine rn_aload_n (pc := 51) 0 dX0_addGuess_51 rfl rfl ?_
    obtain ⟨v12, hv12, h⟩ := bnd_some h
    refine rn_getR (pc := 52) (k := 2) okX0 (by decide) tw_261 rfl dX0_addGuess_52 hv12 ?_
    refine rn_iload (pc := 55) 5 dX0_addGuess_55 rfl ?_
    refine rn_iconst (pc := 57) (v := 1) dX0_addGuess_57 (by decide) ?_
    refine rn_isub (pc := 58) dX0_addGuess_58 ?_
    obtain ⟨v13, hv13, h⟩ := bnd_some h
    refine rn_aald25 (pc := 59) dX0_addGuess_59 hv13 ?_
    obtain ⟨v14, hv14, h⟩ := bnd_some h
    refine rn_getI (pc := 60) (k := 2) okX3 (by decide) tw_621 rfl dX0_addGuess_60 hv14 ?_
    refine rn_iload_n (pc := 63) 2 dX0_addGuess_63 rfl rfl ?_
    rcases if_elim h with ⟨c15, h⟩ | ⟨c15, h⟩
    · refine rn_ile_f (pc := 64) 89 dX0_addGuess_64 (by decide) c15 ?_
      refine rn_aload_n (pc := 67) 0 dX0_addGuess_67 rfl rfl ?_
      obtain ⟨v16, hv16, h⟩ := bnd_some h
      refine rn_getR (pc := 68) (k := 2) okX0 (by decide) tw_261 rfl dX0_addGuess_68 hv16 ?_
      refine rn_iload (pc := 71) 5 dX0_addGuess_71 rfl ?_
      refine rn_aload_n (pc := 73) 0 dX0_addGuess_73 rfl rfl ?_
      obtain ⟨v17, hv17, h⟩ := bnd_some h
      refine rn_getR (pc := 74) (k := 2) okX0 (by decide) tw_261 rfl dX0_addGuess_74 hv17 ?_
      refine rn_iload (pc := 77) 5 dX0_addGuess_77 rfl ?_
      refine rn_iconst (pc := 79) (v := 1) dX0_addGuess_79 (by decide) ?_
      refine rn_isub (pc := 80) dX0_addGuess_80 ?_
      obtain ⟨v18, hv18, h⟩ := bnd_some h
      refine rn_aald25 (pc := 81) dX0_addGuess_81 hv18 ?_
      obtain ⟨u19, hu19, h⟩ := bnd_some h
      refine rn_aast25 (pc := 82) dX0_addGuess_82 hu19 ?_
      obtain ⟨x20, ex20, h⟩ := nm_elim h
      refine rn_iinc (pc := 83) (v := x20) (lv' := [(7, .int x20), (0, rv (some t0)), (2, .int i2), (3, .int i3), (5, .int i5), (6, rv (some t6))]) 5 dX0_addGuess_83 rfl (by rw [ex20]; rfl) (by decide) rfl ?_
      refine rn_goto (pc := 86) (tgt := 46) dX0_addGuess_86 (by decide) ?_
      cases h
      exact rn_sub [1, 2, 3, 4, 5, 0] rfl (k0 _ rfl)
    · refine rn_ile_t (pc := 64) (tgt := 89) dX0_addGuess_64 (by decide) c15 ?_
      cases h
      exact rn_sub [0, 1, 3, 4, 5] rfl (k1 _ rfl)
  · refine rn_zle_t (pc := 48) (tgt := 89) dX0_addGuess_48 (by decide) c11 ?_
    cases h
    exact rn_sub [0, 1, 3, 4, 5] rfl (k1 _ rfl)
theorem lX0_addGuess_46 {l : Launch} {G : Gt} {d : Nat} {t0 : Nat} {i2 : Int32} {i3 : Int32} {i5 : Int32} {t6 : Nat} {N : Nat} {s0 : Int32 × Mem} {r : Int32 × Mem} {o : Outcome} {u' : Mem} (h : lp (fun s : Int32 × Mem => bX0_addGuess_46 t0 i2 i3 i5 t6 s.1 s.2) N s0 = some r) (k1 : Rn l G iX0_addGuess (d + 2) 89 [(0, rv (some t0)), (2, .int i2), (5, .int i5), (6, rv (some t6)), (7, .int r.1)] [] r.2 o u') : Rn l G iX0_addGuess (d + 2) 46 [(0, rv (some t0)), (2, .int i2), (3, .int i3), (5, .int i5), (6, rv (some t6)), (7, .int s0.1)] [] s0.2 o u' :=
  lp_run (P := fun s : Int32 × Mem => Rn l G iX0_addGuess (d + 2) 46 [(0, rv (some t0)), (2, .int i2), (3, .int i3), (5, .int i5), (6, rv (some t6)), (7, .int s.1)] [] s.2 o u') (E := fun r => Rn l G iX0_addGuess (d + 2) 89 [(0, rv (some t0)), (2, .int i2), (5, .int i5), (6, rv (some t6)), (7, .int r.1)] [] r.2 o u') (fun s y hy k0 kE => btX0_addGuess_46 hy (fun s' e => k0 s' e) (fun r e => kE r e)) N s0 r h k1
theorem jtX0_addGuess_89 {l : Launch} {G : Gt} {d : Nat} {t0 : Nat} {p2 : Int32} {p5 : Int32} {t6 : Nat} {p7 : Int32} {u : Mem} {y : Int32 × Mem} (h : jX0_addGuess_89 t0 p2 p5 t6 p7 u = some y) : Rn l G iX0_addGuess (d + 2) 89 [(0, rv (some t0)), (2, .int p2), (5, .int p5), (6, rv (some t6)), (7, .int p7)] [] u (.returned (some (.int y.1))) y.2 := by
  unfold jX0_addGuess_89 at h
  refine rn_aload_n (pc := 89) 0 dX0_addGuess_89 rfl rfl ?_
  obtain ⟨v22, hv22, h⟩ := bnd_some h
  refine rn_getR (pc := 90) (k := 2) okX0 (by decide) tw_261 rfl dX0_addGuess_90 hv22 ?_
  refine rn_iload (pc := 93) 4 dX0_addGuess_93 rfl ?_
  refine rn_aload (pc := 95) 3 dX0_addGuess_95 rfl ?_
  obtain ⟨u23, hu23, h⟩ := bnd_some h
  refine rn_aast25 (pc := 97) dX0_addGuess_97 hu23 ?_
  refine rn_aload_n (pc := 98) 0 dX0_addGuess_98 rfl rfl ?_
  obtain ⟨v24, hv24, h⟩ := bnd_some h
  refine rn_getR (pc := 99) (k := 0) okX0 (by decide) tw_255 rfl dX0_addGuess_99 hv24 ?_
  refine rn_iload_n (pc := 102) 1 dX0_addGuess_102 rfl rfl ?_
  obtain ⟨v25, hv25, h⟩ := bnd_some h
  refine rn_aald24 (pc := 103) dX0_addGuess_103 hv25 ?_
  refine rn_dup (pc := 104) dX0_addGuess_104 (rv_cat _) ?_
  obtain ⟨v26, hv26, h⟩ := bnd_some h
  refine rn_getI (pc := 105) (k := 4) okX5 (by decide) tw_242 rfl dX0_addGuess_105 hv26 ?_
  refine rn_iconst (pc := 108) (v := 1) dX0_addGuess_108 (by decide) ?_
  refine rn_iadd (pc := 109) dX0_addGuess_109 ?_
  obtain ⟨u27, hu27, h⟩ := bnd_some h
  refine rn_putI (pc := 110) (k := 4) okX5 (by decide) tw_242 (Or.inl rfl) (Or.inl rfl) dX0_addGuess_110 hu27 ?_
  refine rn_aload_n (pc := 113) 0 dX0_addGuess_113 rfl rfl ?_
  refine rn_dup (pc := 114) dX0_addGuess_114 (rv_cat _) ?_
  obtain ⟨v28, hv28, h⟩ := bnd_some h
  refine rn_getI (pc := 115) (k := 4) okX0 (by decide) tw_269 rfl dX0_addGuess_115 hv28 ?_
  refine rn_iconst (pc := 118) (v := 1) dX0_addGuess_118 (by decide) ?_
  refine rn_iadd (pc := 119) dX0_addGuess_119 ?_
  obtain ⟨u29, hu29, h⟩ := bnd_some h
  refine rn_putI (pc := 120) (k := 4) okX0 (by decide) tw_269 (Or.inl rfl) (Or.inl rfl) dX0_addGuess_120 hu29 ?_
  refine rn_aload_n (pc := 123) 0 dX0_addGuess_123 rfl rfl ?_
  refine rn_dup (pc := 124) dX0_addGuess_124 (rv_cat _) ?_
  obtain ⟨v30, hv30, h⟩ := bnd_some h
  refine rn_getI (pc := 125) (k := 5) okX0 (by decide) tw_273 rfl dX0_addGuess_125 hv30 ?_
  refine rn_iconst (pc := 128) (v := 1) dX0_addGuess_128 (by decide) ?_
  refine rn_iadd (pc := 129) dX0_addGuess_129 ?_
  obtain ⟨u31, hu31, h⟩ := bnd_some h
  refine rn_putI (pc := 130) (k := 5) okX0 (by decide) tw_273 (Or.inl rfl) (Or.inl rfl) dX0_addGuess_130 hu31 ?_
  refine rn_iload (pc := 133) 2 dX0_addGuess_133 rfl ?_
  cases h
  exact rn_iret (pc := 135) rfl dX0_addGuess_135
theorem tX0_addGuess {l : Launch} {G : Gt} {d : Nat} {t0 : Nat} {p1 : Int32} {p2 : Int32} {p3 : Int32} {p4 : Int32} {u : Mem} {y : Int32 × Mem} (h : fX0_addGuess t0 p1 p2 p3 p4 u = some y) : Rn l G iX0_addGuess (d + 2) 0 [(0, rv (some t0)), (1, .int p1), (2, .int p2), (3, .int p3), (4, .int p4)] [] u (.returned (some (.int y.1))) y.2 := by
  unfold fX0_addGuess at h
  refine rn_aload_n (pc := 0) 0 dX0_addGuess_0 rfl rfl ?_
  obtain ⟨v1, hv1, h⟩ := bnd_some h
  refine rn_getI (pc := 1) (k := 4) okX0 (by decide) tw_269 rfl dX0_addGuess_1 hv1 ?_
  refine rn_istore (pc := 4) (lv' := [(5, .int v1), (0, rv (some t0)), (1, .int p1), (2, .int p2), (3, .int p3), (4, .int p4)]) dX0_addGuess_4 (by decide) rfl ?_
  obtain ⟨a2, u3, ha2, h⟩ := bnd2_some h
  refine rn_new (pc := 6) okX3 (by decide +kernel) tw_222 tw_609 tw_88 dX0_addGuess_6 ha2 ?_
  refine rn_dup (pc := 9) dX0_addGuess_9 (rv_cat _) ?_
  refine rn_iload_n (pc := 10) 2 dX0_addGuess_10 rfl rfl ?_
  refine rn_iload_n (pc := 11) 3 dX0_addGuess_11 rfl rfl ?_
  refine rn_iload_n (pc := 12) 4 dX0_addGuess_12 rfl rfl ?_
  refine rn_iload (pc := 13) 5 dX0_addGuess_13 rfl ?_
  refine rn_aload_n (pc := 15) 1 dX0_addGuess_15 rfl rfl ?_
  obtain ⟨v4, hv4, h⟩ := bnd_some h
  refine rn_getR (pc := 16) (k := 1) okX0 (by decide) tw_259 rfl dX0_addGuess_16 hv4 ?_
  refine rn_iload_n (pc := 19) 2 dX0_addGuess_19 rfl rfl ?_
  refine rn_iload_n (pc := 20) 3 dX0_addGuess_20 rfl rfl ?_
  obtain ⟨v5, hv5, h⟩ := bnd_some h
  refine rn_callSN (pc := 21) (host := "ForeBook") (n := 2) (As := [.int p1, .int p2]) (rest := [rv v4, .int p4, .int p3, .int p2, .int p1, rv (some a2), rv (some a2)]) (eX10_cell (d := d + 1) hv5) (by omega) tw_604 tw_68 (by decide +kernel) tw_603 (by decide +kernel) rfl (by generalize v4 = q0; cases q0 <;> exact Nat.le_of_ble_eq_true rfl) dX0_addGuess_21 rfl ?_
  obtain ⟨v6, hv6, h⟩ := bnd_some h
  refine rn_aald25 (pc := 24) dX0_addGuess_24 hv6 ?_
  obtain ⟨u7, hu7, h⟩ := bnd_some h
  refine rn_callI (pc := 25) (n := 5) (As := [.int p1, .int p2, .int p3, .int p4, rv v6]) (rest := [rv (some a2)]) (eX3_init (d := d + 0) hu7) (by omega) rfl tw_612 tw_88 tw_610 tw_611 rfl (by decide +kernel) rfl (Nat.le_of_ble_eq_true rfl) dX0_addGuess_25 rfl ?_
  refine rn_astore (pc := 28) (lv' := [(6, rv (some a2)), (5, .int v1), (0, rv (some t0)), (1, .int p1), (2, .int p2), (3, .int p3), (4, .int p4)]) dX0_addGuess_28 (by decide) rfl ?_
  refine rn_aload_n (pc := 30) 2 dX0_addGuess_30 rfl rfl ?_
  obtain ⟨v8, hv8, h⟩ := bnd_some h
  refine rn_getR (pc := 31) (k := 1) okX0 (by decide) tw_259 rfl dX0_addGuess_31 hv8 ?_
  refine rn_iload_n (pc := 34) 3 dX0_addGuess_34 rfl rfl ?_
  refine rn_iload_n (pc := 35) 4 dX0_addGuess_35 rfl rfl ?_
  obtain ⟨v9, hv9, h⟩ := bnd_some h
  refine rn_callSN (pc := 36) (host := "ForeBook") (n := 2) (As := [.int p1, .int p2]) (rest := [rv v8]) (eX10_cell (d := d + 1) hv9) (by omega) tw_604 tw_68 (by decide +kernel) tw_603 (by decide +kernel) rfl (cat_le8 (Nat.le_of_ble_eq_true rfl)) dX0_addGuess_36 rfl ?_
  refine rn_aload (pc := 39) 0 dX0_addGuess_39 rfl ?_
  obtain ⟨u10, hu10, h⟩ := bnd_some h
  refine rn_aast25 (pc := 41) dX0_addGuess_41 hu10 ?_
  refine rn_iload (pc := 42) 1 dX0_addGuess_42 rfl ?_
  refine rn_istore (pc := 44) (lv' := [(7, .int v1), (6, rv (some a2)), (5, .int v1), (0, rv (some t0)), (1, .int p1), (2, .int p2), (3, .int p3), (4, .int p4)]) dX0_addGuess_44 (by decide) rfl ?_
  obtain ⟨r21, hr21, h⟩ := bnd_some h
  refine rn_sub [3, 5, 6, 2, 1, 0] rfl (lX0_addGuess_46  hr21 ?_)
  exact rn_sub [0, 1, 2, 3, 4] rfl (jtX0_addGuess_89 h)
theorem eX0_addGuess {l : Launch} {G : Gt} {d : Nat} {t0 : Nat} {p1 : Int32} {p2 : Int32} {p3 : Int32} {p4 : Int32} {u : Mem} {y : Int32 × Mem} (h : fX0_addGuess t0 p1 p2 p3 p4 u = some y) : Ex l G iX0_addGuess (d + 2) [rv (some t0), .int p1, .int p2, .int p3, .int p4] u (.returned (some (.int y.1))) y.2 := Ex.of (by decide +kernel) (by decide) (Nat.le_of_ble_eq_true rfl) rfl (tX0_addGuess h)
theorem tX0_addQuestion {l : Launch} {G : Gt} {d : Nat} {t0 : Nat} {p1 : Int32} {p2 : Int32} {u : Mem} {y : Int32 × Mem} (h : fX0_addQuestion t0 p1 p2 u = some y) : Rn l G iX0_addQuestion d 0 [(0, rv (some t0)), (1, .int p1), (2, .int p2)] [] u (.returned (some (.int y.1))) y.2 := by
  unfold fX0_addQuestion at h
  refine rn_aload_n (pc := 0) 0 dX0_addQuestion_0 rfl rfl ?_
  obtain ⟨v1, hv1, h⟩ := bnd_some h
  refine rn_getI (pc := 1) (k := 3) okX0 (by decide) tw_263 rfl dX0_addQuestion_1 hv1 ?_
  refine rn_istore_n (pc := 4) (lv' := [(3, .int v1), (0, rv (some t0)), (1, .int p1), (2, .int p2)]) dX0_addQuestion_4 rfl (by decide) rfl ?_
  refine rn_aload_n (pc := 5) 1 dX0_addQuestion_5 rfl rfl ?_
  obtain ⟨v2, hv2, h⟩ := bnd_some h
  refine rn_getR (pc := 6) (k := 0) okX0 (by decide) tw_255 rfl dX0_addQuestion_6 hv2 ?_
  refine rn_iload_n (pc := 9) 0 dX0_addQuestion_9 rfl rfl ?_
  obtain ⟨v3, hv3, h⟩ := bnd_some h
  refine rn_aald24 (pc := 10) dX0_addQuestion_10 hv3 ?_
  refine rn_iload_n (pc := 11) 2 dX0_addQuestion_11 rfl rfl ?_
  obtain ⟨u4, hu4, h⟩ := bnd_some h
  refine rn_putI (pc := 12) (k := 0) okX5 (by decide) tw_227 (Or.inl rfl) (Or.inl rfl) dX0_addQuestion_12 hu4 ?_
  refine rn_aload_n (pc := 15) 1 dX0_addQuestion_15 rfl rfl ?_
  obtain ⟨v5, hv5, h⟩ := bnd_some h
  refine rn_getR (pc := 16) (k := 0) okX0 (by decide) tw_255 rfl dX0_addQuestion_16 hv5 ?_
  refine rn_iload_n (pc := 19) 0 dX0_addQuestion_19 rfl rfl ?_
  obtain ⟨v6, hv6, h⟩ := bnd_some h
  refine rn_aald24 (pc := 20) dX0_addQuestion_20 hv6 ?_
  refine rn_iload_n (pc := 21) 3 dX0_addQuestion_21 rfl rfl ?_
  obtain ⟨u7, hu7, h⟩ := bnd_some h
  refine rn_putI (pc := 22) (k := 1) okX5 (by decide) tw_233 (Or.inl rfl) (Or.inl rfl) dX0_addQuestion_22 hu7 ?_
  refine rn_aload_n (pc := 25) 1 dX0_addQuestion_25 rfl rfl ?_
  refine rn_dup (pc := 26) dX0_addQuestion_26 (rv_cat _) ?_
  obtain ⟨v8, hv8, h⟩ := bnd_some h
  refine rn_getI (pc := 27) (k := 3) okX0 (by decide) tw_263 rfl dX0_addQuestion_27 hv8 ?_
  refine rn_iconst (pc := 30) (v := 1) dX0_addQuestion_30 (by decide) ?_
  refine rn_iadd (pc := 31) dX0_addQuestion_31 ?_
  obtain ⟨u9, hu9, h⟩ := bnd_some h
  refine rn_putI (pc := 32) (k := 3) okX0 (by decide) tw_263 (Or.inl rfl) (Or.inl rfl) dX0_addQuestion_32 hu9 ?_
  refine rn_aload_n (pc := 35) 1 dX0_addQuestion_35 rfl rfl ?_
  refine rn_dup (pc := 36) dX0_addQuestion_36 (rv_cat _) ?_
  obtain ⟨v10, hv10, h⟩ := bnd_some h
  refine rn_getI (pc := 37) (k := 5) okX0 (by decide) tw_273 rfl dX0_addQuestion_37 hv10 ?_
  refine rn_iconst (pc := 40) (v := 1) dX0_addQuestion_40 (by decide) ?_
  refine rn_iadd (pc := 41) dX0_addQuestion_41 ?_
  obtain ⟨u11, hu11, h⟩ := bnd_some h
  refine rn_putI (pc := 42) (k := 5) okX0 (by decide) tw_273 (Or.inl rfl) (Or.inl rfl) dX0_addQuestion_42 hu11 ?_
  refine rn_iload_n (pc := 45) 0 dX0_addQuestion_45 rfl rfl ?_
  cases h
  exact rn_iret (pc := 46) rfl dX0_addQuestion_46
theorem eX0_addQuestion {l : Launch} {G : Gt} {d : Nat} {t0 : Nat} {p1 : Int32} {p2 : Int32} {u : Mem} {y : Int32 × Mem} (h : fX0_addQuestion t0 p1 p2 u = some y) : Ex l G iX0_addQuestion d [rv (some t0), .int p1, .int p2] u (.returned (some (.int y.1))) y.2 := Ex.of (by decide +kernel) (by decide) (Nat.le_of_ble_eq_true rfl) rfl (tX0_addQuestion h)
theorem tX5_init {l : Launch} {G : Gt} {d : Nat} {t0 : Nat} {u : Mem} {y : Mem} (h : fX5_init t0 u = some y) : Rn l G iX5_init (d + 1) 0 [(0, rv (some t0))] [] u (.returned none) y := by
  unfold fX5_init at h
  refine rn_aload_n (pc := 0) 0 dX5_init_0 rfl rfl ?_
  refine rn_objInit (pc := 1) (by omega) tw_226 tw_97 tw_98 (by decide) dX5_init_1 ?_
  refine rn_aload_n (pc := 4) 0 dX5_init_4 rfl rfl ?_
  refine rn_iconst (pc := 5) (v := 3) dX5_init_5 (by decide) ?_
  obtain ⟨u1, hu1, h⟩ := bnd_some h
  refine rn_putI (pc := 6) (k := 2) okX5 (by decide) tw_235 (Or.inl rfl) (Or.inl rfl) dX5_init_6 hu1 ?_
  refine rn_aload_n (pc := 9) 0 dX5_init_9 rfl rfl ?_
  refine rn_iconst (pc := 10) (v := -1) dX5_init_10 (by decide) ?_
  obtain ⟨u2, hu2, h⟩ := bnd_some h
  refine rn_putI (pc := 11) (k := 3) okX5 (by decide) tw_239 (Or.inl rfl) (Or.inl rfl) dX5_init_11 hu2 ?_
  cases h
  exact rn_vret (pc := 14) rfl dX5_init_14
theorem eX5_init {l : Launch} {G : Gt} {d : Nat} {t0 : Nat} {u : Mem} {y : Mem} (h : fX5_init t0 u = some y) : Ex l G iX5_init (d + 1) [rv (some t0)] u (.returned none) y := Ex.of (by decide +kernel) (by decide) (Nat.le_of_ble_eq_true rfl) rfl (tX5_init h)
theorem tX5_isSettled {l : Launch} {G : Gt} {d : Nat} {t0 : Nat} {u : Mem} {y : Int32} (h : fX5_isSettled t0 u = some y) : Rn l G iX5_isSettled d 0 [(0, rv (some t0))] [] u (.returned (some (.int y))) u := by
  unfold fX5_isSettled at h
  refine rn_aload_n (pc := 0) 0 dX5_isSettled_0 rfl rfl ?_
  obtain ⟨v1, hv1, h⟩ := bnd_some h
  refine rn_getI (pc := 1) (k := 2) okX5 (by decide) tw_235 rfl dX5_isSettled_1 hv1 ?_
  rcases if_elim h with ⟨c2, h⟩ | ⟨c2, h⟩
  · refine rn_zeq_t (pc := 4) (tgt := 15) dX5_isSettled_4 (by decide) c2 ?_
    refine rn_iconst (pc := 15) (v := 1) dX5_isSettled_15 (by decide) ?_
    refine rn_goto (pc := 16) (tgt := 20) dX5_isSettled_16 (by decide) ?_
    cases h
    exact rn_zret (pc := 20) (by decide) rfl dX5_isSettled_20
  · refine rn_zeq_f (pc := 4) 15 dX5_isSettled_4 (by decide) c2 ?_
    refine rn_aload_n (pc := 7) 0 dX5_isSettled_7 rfl rfl ?_
    obtain ⟨v3, hv3, h⟩ := bnd_some h
    refine rn_getI (pc := 8) (k := 2) okX5 (by decide) tw_235 rfl dX5_isSettled_8 hv3 ?_
    refine rn_iconst (pc := 11) (v := 1) dX5_isSettled_11 (by decide) ?_
    rcases if_elim h with ⟨c4, h⟩ | ⟨c4, h⟩
    · refine rn_ine_f (pc := 12) 19 dX5_isSettled_12 (by decide) c4 ?_
      refine rn_iconst (pc := 15) (v := 1) dX5_isSettled_15 (by decide) ?_
      refine rn_goto (pc := 16) (tgt := 20) dX5_isSettled_16 (by decide) ?_
      cases h
      exact rn_zret (pc := 20) (by decide) rfl dX5_isSettled_20
    · refine rn_ine_t (pc := 12) (tgt := 19) dX5_isSettled_12 (by decide) c4 ?_
      refine rn_iconst (pc := 19) (v := 0) dX5_isSettled_19 (by decide) ?_
      cases h
      exact rn_zret (pc := 20) (by decide) rfl dX5_isSettled_20
theorem eX5_isSettled {l : Launch} {G : Gt} {d : Nat} {t0 : Nat} {u : Mem} {y : Int32} (h : fX5_isSettled t0 u = some y) : Ex l G iX5_isSettled d [rv (some t0)] u (.returned (some (.int y))) u := Ex.of (by decide +kernel) (by decide) (Nat.le_of_ble_eq_true rfl) rfl (tX5_isSettled h)
