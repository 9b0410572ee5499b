abbrev iX12_mend : MI := (yX12_mend, cX12_mend, 7, (some .int))
def bX12_mend_43 (t0 : Nat) (i1 : Int32) (i2 : Int32) (i3 : Int32) (s4 : Int32) (s5 : Int32) (s6 : Int32) (u : Mem) : Option ((Int32 × Int32 × Int32 × Mem) ⊕ (Int32 × Int32 × Mem)) :=
  (gfI u (some t0) 12 25).bind fun v8 =>
  if s6 < v8 then
    if ((i3 >>> (s6 &&& 31)) &&& (1 : Int32)) = 0 then
      nm (s6 + 1 : Int32) fun x11 =>
      some (.inl (s4, s5, x11, u))
    else
      nm (s4 + 1 : Int32) fun x12 =>
      (gfR u (some t0) 12 53).bind fun v13 =>
      (chk u (some t0) 12).bind fun b14 =>
      (fX12_heldOn t0 i1 s6 i2 u).bind fun v15 =>
      (asI u v13 20 s6 v15).bind fun u16 =>
      if s5 = 0 then
        nm (s6 + 1 : Int32) fun x18 =>
        some (.inl (x12, (0 : Int32), x18, u16))
      else
        (gfR u16 (some t0) 12 53).bind fun v19 =>
        (alI u16 v19 20 s6).bind fun v20 =>
        if v20 = (-1 : Int32) then
          nm (s6 + 1 : Int32) fun x22 =>
          some (.inl (x12, (0 : Int32), x22, u16))
        else
          nm (s6 + 1 : Int32) fun x23 =>
          some (.inl (x12, (1 : Int32), x23, u16))
  else
    some (.inr (s4, s5, u))
def bX12_mend_145 (t0 : Nat) (i3 : Int32) (s6 : Int32) (u : Mem) : Option ((Int32 × Mem) ⊕ (Mem)) :=
  if s6 < (20 : Int32) then
    (gfR u (some t0) 12 51).bind fun v31 =>
    (gfI u (some t0) 12 25).bind fun v32 =>
    if s6 < v32 then
      if ((i3 >>> (s6 &&& 31)) &&& (1 : Int32)) = (1 : Int32) then
        (gfR u (some t0) 12 54).bind fun v35 =>
        (alI u v35 20 s6).bind fun v36 =>
        (asI u v31 20 s6 v36).bind fun u37 =>
        nm (s6 + 1 : Int32) fun x38 =>
        some (.inl (x38, u37))
      else
        (asI u v31 20 s6 (-1 : Int32)).bind fun u39 =>
        nm (s6 + 1 : Int32) fun x40 =>
        some (.inl (x40, u39))
    else
      (asI u v31 20 s6 (-1 : Int32)).bind fun u41 =>
      nm (s6 + 1 : Int32) fun x42 =>
      some (.inl (x42, u41))
  else
    some (.inr u)
def fX12_mend (t0 : Nat) (p1 : Int32) (p2 : Int32) (p3 : Int32) (u : Mem) : Option (Int32 × Mem) :=
  (fX12_isGuesser p1 u).bind fun v1 =>
  if v1 = 0 then
    some ((-2 : Int32), u)
  else
    (fX12_isDay p2 u).bind fun v3 =>
    if v3 = 0 then
      some ((-2 : Int32), u)
    else
      (gfI u (some t0) 12 25).bind fun v5 =>
      (fX12_in (Int32.toInt64 p3) (1 : Int64) (((1 : Int64) <<< (Int32.toInt64 v5 &&& 63)) - (1 : Int64)) u).bind fun v6 =>
      if v6 = 0 then
        some ((-2 : Int32), u)
      else
        (lp (fun s : Int32 × Int32 × Int32 × Mem => bX12_mend_43 t0 p1 p2 p3 s.1 s.2.1 s.2.2.1 s.2.2.2) FU ((0 : Int32), (1 : Int32), (0 : Int32), u)).bind fun r24 =>
        if (4 : Int32) < r24.1 then
          some ((-3 : Int32), r24.2.2)
        else
          if r24.2.1 = 0 then
            some ((-4 : Int32), r24.2.2)
          else
            (pfI r24.2.2 (some t0) 12 55 (1000 : Int32)).bind fun u27 =>
            (chk u27 (some t0) 12).bind fun b28 =>
            (fX12_mendFrom 22 t0 p3 (0 : Int32) (0 : Int32) u27).bind fun u29 =>
            (lp (fun s : Int32 × Mem => bX12_mend_145 t0 p3 s.1 s.2) FU ((0 : Int32), u29)).bind fun r43 =>
            (gfI r43 (some t0) 12 55).bind fun v44 =>
            some (v44, r43)
abbrev iX12_mended : MI := (yX12_mended, cX12_mended, 2, (some .int))
def fX12_mended (t0 : Nat) (p1 : Int32) (u : Mem) : Option (Int32) :=
  (fX12_in (Int32.toInt64 p1) (0 : Int64) (19 : Int64) u).bind fun v1 =>
  if v1 = 0 then
    some (-1 : Int32)
  else
    (gfR u (some t0) 12 51).bind fun v3 =>
    (alI u v3 20 p1).bind fun v4 =>
    some v4
abbrev iX12_count : MI := (yX12_count, cX12_count, 4, (some .int))
def bX12_count_64 (t0 : Nat) (u : Mem) (s2 : Int32) (s3 : Int32) : Option ((Int32 × Int32) ⊕ (Int32)) :=
  if s3 < (20 : Int32) then
    (gfR u (some t0) 12 48).bind fun v13 =>
    (alI u v13 20 s3).bind fun v14 =>
    if 0 < v14 then
      nm (s2 + (1 : Int32) : Int32) fun x16 =>
      nm (s3 + 1 : Int32) fun x17 =>
      some (.inl (x16, x17))
    else
      nm (s2 + (0 : Int32) : Int32) fun x18 =>
      nm (s3 + 1 : Int32) fun x19 =>
      some (.inl (x18, x19))
  else
    some (.inr s2)
def fX12_count (t0 : Nat) (p1 : Int32) (u : Mem) : Option (Int32 × Mem) :=
  if p1 = 0 then
    (gfI u (some t0) 12 25).bind fun v2 =>
    some (v2, u)
  else if p1 = 1 then
      (gfI u (some t0) 12 26).bind fun v4 =>
      some (v4, u)
    else if p1 = 2 then
        (gfI u (some t0) 12 27).bind fun v6 =>
        some (v6, u)
      else if p1 = 3 then
          (gfI u (some t0) 12 16).bind fun v8 =>
          some (v8, u)
        else if p1 = 4 then
            (chk u (some t0) 12).bind fun b10 =>
            (fX12_findMeans t0 u).bind fun u11 =>
            (lp (fun s : Int32 × Int32 => bX12_count_64 t0 u11 s.1 s.2) FU ((0 : Int32), (0 : Int32))).bind fun r20 =>
            some (r20, u11)
          else 
            some ((-1 : Int32), u)
theorem btX12_mend_43 {l : Launch} {G : Gt} {d : Nat} {t0 : Nat} {i1 : Int32} {i2 : Int32} {i3 : Int32} {s4 : Int32} {s5 : Int32} {s6 : Int32} {u : Mem} {y : (Int32 × Int32 × Int32 × Mem) ⊕ (Int32 × Int32 × Mem)} {o : Outcome} {u' : Mem} (h : bX12_mend_43 t0 i1 i2 i3 s4 s5 s6 u = some y) (k0 : ∀ s' : Int32 × Int32 × Int32 × Mem, y = .inl s' → Rn l G iX12_mend (d + 25) 43 [(0, rv (some t0)), (1, .int i1), (2, .int i2), (3, .int i3), (4, .int s'.1), (5, .int s'.2.1), (6, .int s'.2.2.1)] [] s'.2.2.2 o u') (k1 : ∀ r : Int32 × Int32 × Mem, y = .inr (r) → Rn l G iX12_mend (d + 25) 111 [(0, rv (some t0)), (3, .int i3), (4, .int r.1), (5, .int r.2.1)] [] r.2.2 o u') : Rn l G iX12_mend (d + 25) 43 [(0, rv (some t0)), (1, .int i1), (2, .int i2), (3, .int i3), (4, .int s4), (5, .int s5), (6, .int s6)] [] u o u' := by
  unfold bX12_mend_43 at h
  refine rn_iload (pc := 43) 6 dX12_mend_43 rfl ?_
  refine rn_aload_n (pc := 45) 0 dX12_mend_45 rfl rfl ?_
  obtain ⟨v8, hv8, h1⟩ := bnd_some h
  refine rn_getI (pc := 46) (k := 25) okX12 (by decide) tw_1018 rfl dX12_mend_46 hv8 ?_
  rcases if_elim h1 with ⟨c9, h2⟩ | ⟨c9, h2⟩
  · refine rn_ige_f (pc := 49) 111 dX12_mend_49 (by decide) c9 ?_
    refine rn_iload_n (pc := 52) 3 dX12_mend_52 rfl rfl ?_
    refine rn_iload (pc := 53) 6 dX12_mend_53 rfl ?_
    refine rn_ishr (pc := 55) dX12_mend_55 ?_
    refine rn_iconst (pc := 56) (v := 1) dX12_mend_56 (by decide) ?_
    refine rn_iand (pc := 57) dX12_mend_57 ?_
    rcases if_elim h2 with ⟨c10, h3⟩ | ⟨c10, h3⟩
    · refine rn_zne_f (pc := 58) 64 dX12_mend_58 (by decide) c10 ?_
      refine rn_goto (pc := 61) (tgt := 105) dX12_mend_61 (by decide) ?_
      obtain ⟨x11, ex11, h4⟩ := nm_elim h3
      refine rn_iinc (pc := 105) (v := x11) (lv' := [(6, .int x11), (0, rv (some t0)), (1, .int i1), (2, .int i2), (3, .int i3), (4, .int s4), (5, .int s5)]) 6 dX12_mend_105 rfl (by rw [ex11]; rfl) (by decide) rfl ?_
      refine rn_goto (pc := 108) (tgt := 43) dX12_mend_108 (by decide) ?_
      cases h4
      exact rn_sub [1, 2, 3, 4, 5, 6, 0] rfl (k0 _ rfl)
    · refine rn_zne_t (pc := 58) (tgt := 64) dX12_mend_58 (by decide) c10 ?_
      obtain ⟨x12, ex12, h5⟩ := nm_elim h3
      refine rn_iinc (pc := 64) (v := x12) (lv' := [(4, .int x12), (0, rv (some t0)), (1, .int i1), (2, .int i2), (3, .int i3), (5, .int s5), (6, .int s6)]) 4 dX12_mend_64 rfl (by rw [ex12]; rfl) (by decide) rfl ?_
      refine rn_aload_n (pc := 67) 1 dX12_mend_67 rfl rfl ?_
      obtain ⟨v13, hv13, h6⟩ := bnd_some h5
      refine rn_getR (pc := 68) (k := 53) okX12 (by decide) tw_1046 rfl dX12_mend_68 hv13 ?_
      refine rn_iload (pc := 71) 6 dX12_mend_71 rfl ?_
      refine rn_aload_n (pc := 73) 1 dX12_mend_73 rfl rfl ?_
      refine rn_iload_n (pc := 74) 2 dX12_mend_74 rfl rfl ?_
      refine rn_iload (pc := 75) 6 dX12_mend_75 rfl ?_
      refine rn_iload_n (pc := 77) 3 dX12_mend_77 rfl rfl ?_
      obtain ⟨b14, hb14, h7⟩ := bnd_some h6
      obtain ⟨qb14, kb14⟩ := chk_elim hb14
      cases qb14
      obtain ⟨v15, hv15, h8⟩ := bnd_some h7
      refine rn_callV (pc := 78) (n := 3) (As := [.int i1, .int s6, .int i2]) (rest := [.int s6, rv v13]) (eX12_heldOn (d := d + 24) hv15) (by omega) okX12 kb14 tw_1259 tw_79 tw_1257 tw_1258 tw_44 (by decide +kernel) rfl (cat_le8 (Nat.le_of_ble_eq_true rfl)) dX12_mend_78 rfl ?_
      obtain ⟨u16, hu16, h9⟩ := bnd_some h8
      refine rn_iast (pc := 81) dX12_mend_81 hu16 ?_
      refine rn_iload (pc := 82) 5 dX12_mend_82 rfl ?_
      rcases if_elim h9 with ⟨c17, h10⟩ | ⟨c17, h10⟩
      · refine rn_zeq_t (pc := 84) (tgt := 102) dX12_mend_84 (by decide) c17 ?_
        refine rn_iconst (pc := 102) (v := 0) dX12_mend_102 (by decide) ?_
        refine rn_istore (pc := 103) (lv' := [(5, .int (0 : Int32)), (4, .int x12), (0, rv (some t0)), (1, .int i1), (2, .int i2), (3, .int i3), (6, .int s6)]) dX12_mend_103 (by decide) rfl ?_
        obtain ⟨x18, ex18, h11⟩ := nm_elim h10
        refine rn_iinc (pc := 105) (v := x18) (lv' := [(6, .int x18), (5, .int (0 : Int32)), (4, .int x12), (0, rv (some t0)), (1, .int i1), (2, .int i2), (3, .int i3)]) 6 dX12_mend_105 rfl (by rw [ex18]; rfl) (by decide) rfl ?_
        refine rn_goto (pc := 108) (tgt := 43) dX12_mend_108 (by decide) ?_
        cases h11
        exact rn_sub [3, 4, 5, 6, 2, 1, 0] rfl (k0 _ rfl)
      · refine rn_zeq_f (pc := 84) 102 dX12_mend_84 (by decide) c17 ?_
        refine rn_aload_n (pc := 87) 1 dX12_mend_87 rfl rfl ?_
        obtain ⟨v19, hv19, h12⟩ := bnd_some h10
        refine rn_getR (pc := 88) (k := 53) okX12 (by decide) tw_1046 rfl dX12_mend_88 hv19 ?_
        refine rn_iload (pc := 91) 6 dX12_mend_91 rfl ?_
        obtain ⟨v20, hv20, h13⟩ := bnd_some h12
        refine rn_iald (pc := 93) dX12_mend_93 hv20 ?_
        refine rn_iconst (pc := 94) (v := -1) dX12_mend_94 (by decide) ?_
        rcases if_elim h13 with ⟨c21, h14⟩ | ⟨c21, h14⟩
        · refine rn_ieq_t (pc := 95) (tgt := 102) dX12_mend_95 (by decide) c21 ?_
          refine rn_iconst (pc := 102) (v := 0) dX12_mend_102 (by decide) ?_
          refine rn_istore (pc := 103) (lv' := [(5, .int (0 : Int32)), (4, .int x12), (0, rv (some t0)), (1, .int i1), (2, .int i2), (3, .int i3), (6, .int s6)]) dX12_mend_103 (by decide) rfl ?_
          obtain ⟨x22, ex22, h15⟩ := nm_elim h14
          refine rn_iinc (pc := 105) (v := x22) (lv' := [(6, .int x22), (5, .int (0 : Int32)), (4, .int x12), (0, rv (some t0)), (1, .int i1), (2, .int i2), (3, .int i3)]) 6 dX12_mend_105 rfl (by rw [ex22]; rfl) (by decide) rfl ?_
          refine rn_goto (pc := 108) (tgt := 43) dX12_mend_108 (by decide) ?_
          cases h15
          exact rn_sub [3, 4, 5, 6, 2, 1, 0] rfl (k0 _ rfl)
        · refine rn_ieq_f (pc := 95) 102 dX12_mend_95 (by decide) c21 ?_
          refine rn_iconst (pc := 98) (v := 1) dX12_mend_98 (by decide) ?_
          refine rn_goto (pc := 99) (tgt := 103) dX12_mend_99 (by decide) ?_
          refine rn_istore (pc := 103) (lv' := [(5, .int (1 : Int32)), (4, .int x12), (0, rv (some t0)), (1, .int i1), (2, .int i2), (3, .int i3), (6, .int s6)]) dX12_mend_103 (by decide) rfl ?_
          obtain ⟨x23, ex23, h16⟩ := nm_elim h14
          refine rn_iinc (pc := 105) (v := x23) (lv' := [(6, .int x23), (5, .int (1 : Int32)), (4, .int x12), (0, rv (some t0)), (1, .int i1), (2, .int i2), (3, .int i3)]) 6 dX12_mend_105 rfl (by rw [ex23]; rfl) (by decide) rfl ?_
          refine rn_goto (pc := 108) (tgt := 43) dX12_mend_108 (by decide) ?_
          cases h16
          exact rn_sub [3, 4, 5, 6, 2, 1, 0] rfl (k0 _ rfl)
  · refine rn_ige_t (pc := 49) (tgt := 111) dX12_mend_49 (by decide) c9 ?_
    cases h2
    exact rn_sub [0, 3, 4, 5] rfl (k1 _ rfl)
theorem lX12_mend_43 {l : Launch} {G : Gt} {d : Nat} {t0 : Nat} {i1 : Int32} {i2 : Int32} {i3 : Int32} {N : Nat} {s0 : Int32 × Int32 × Int32 × Mem} {r : Int32 × Int32 × Mem} {o : Outcome} {u' : Mem} (h : lp (fun s : Int32 × Int32 × Int32 × Mem => bX12_mend_43 t0 i1 i2 i3 s.1 s.2.1 s.2.2.1 s.2.2.2) N s0 = some r) (k1 : Rn l G iX12_mend (d + 25) 111 [(0, rv (some t0)), (3, .int i3), (4, .int r.1), (5, .int r.2.1)] [] r.2.2 o u') : Rn l G iX12_mend (d + 25) 43 [(0, rv (some t0)), (1, .int i1), (2, .int i2), (3, .int i3), (4, .int s0.1), (5, .int s0.2.1), (6, .int s0.2.2.1)] [] s0.2.2.2 o u' :=
  lp_run (P := fun s : Int32 × Int32 × Int32 × Mem => Rn l G iX12_mend (d + 25) 43 [(0, rv (some t0)), (1, .int i1), (2, .int i2), (3, .int i3), (4, .int s.1), (5, .int s.2.1), (6, .int s.2.2.1)] [] s.2.2.2 o u') (E := fun r => Rn l G iX12_mend (d + 25) 111 [(0, rv (some t0)), (3, .int i3), (4, .int r.1), (5, .int r.2.1)] [] r.2.2 o u') (fun s y hy k0 kE => btX12_mend_43 hy (fun s' e => k0 s' e) (fun r e => kE r e)) N s0 r h k1
theorem btX12_mend_145 {l : Launch} {G : Gt} {d : Nat} {t0 : Nat} {i3 : Int32} {s6 : Int32} {u : Mem} {y : (Int32 × Mem) ⊕ (Mem)} {o : Outcome} {u' : Mem} (h : bX12_mend_145 t0 i3 s6 u = some y) (k0 : ∀ s' : Int32 × Mem, y = .inl s' → Rn l G iX12_mend (d + 25) 145 [(0, rv (some t0)), (3, .int i3), (6, .int s'.1)] [] s'.2 o u') (k1 : ∀ r : Mem, y = .inr (r) → Rn l G iX12_mend (d + 25) 195 [(0, rv (some t0))] [] r o u') : Rn l G iX12_mend (d + 25) 145 [(0, rv (some t0)), (3, .int i3), (6, .int s6)] [] u o u' := by
  unfold bX12_mend_145 at h
  refine rn_iload (pc := 145) 2 dX12_mend_145 rfl ?_
  refine rn_bipush (pc := 147) (v := 20) dX12_mend_147 (by decide) ?_
  rcases if_elim h with ⟨c30, h1⟩ | ⟨c30, h1⟩
  · refine rn_ige_f (pc := 149) 195 dX12_mend_149 (by decide) c30 ?_
    refine rn_aload_n (pc := 152) 0 dX12_mend_152 rfl rfl ?_
    obtain ⟨v31, hv31, h2⟩ := bnd_some h1
    refine rn_getR (pc := 153) (k := 51) okX12 (by decide) tw_1044 rfl dX12_mend_153 hv31 ?_
    refine rn_iload (pc := 156) 2 dX12_mend_156 rfl ?_
    refine rn_iload (pc := 158) 2 dX12_mend_158 rfl ?_
    refine rn_aload_n (pc := 160) 0 dX12_mend_160 rfl rfl ?_
    obtain ⟨v32, hv32, h3⟩ := bnd_some h2
    refine rn_getI (pc := 161) (k := 25) okX12 (by decide) tw_1018 rfl dX12_mend_161 hv32 ?_
    rcases if_elim h3 with ⟨c33, h4⟩ | ⟨c33, h4⟩
    · refine rn_ige_f (pc := 164) 187 dX12_mend_164 (by decide) c33 ?_
      refine rn_iload_n (pc := 167) 1 dX12_mend_167 rfl rfl ?_
      refine rn_iload (pc := 168) 2 dX12_mend_168 rfl ?_
      refine rn_ishr (pc := 170) dX12_mend_170 ?_
      refine rn_iconst (pc := 171) (v := 1) dX12_mend_171 (by decide) ?_
      refine rn_iand (pc := 172) dX12_mend_172 ?_
      refine rn_iconst (pc := 173) (v := 1) dX12_mend_173 (by decide) ?_
      rcases if_elim h4 with ⟨c34, h5⟩ | ⟨c34, h5⟩
      · refine rn_ine_f (pc := 174) 187 dX12_mend_174 (by decide) c34 ?_
        refine rn_aload_n (pc := 177) 0 dX12_mend_177 rfl rfl ?_
        obtain ⟨v35, hv35, h6⟩ := bnd_some h5
        refine rn_getR (pc := 178) (k := 54) okX12 (by decide) tw_1047 rfl dX12_mend_178 hv35 ?_
        refine rn_iload (pc := 181) 2 dX12_mend_181 rfl ?_
        obtain ⟨v36, hv36, h7⟩ := bnd_some h6
        refine rn_iald (pc := 183) dX12_mend_183 hv36 ?_
        refine rn_goto (pc := 184) (tgt := 188) dX12_mend_184 (by decide) ?_
        obtain ⟨u37, hu37, h8⟩ := bnd_some h7
        refine rn_iast (pc := 188) dX12_mend_188 hu37 ?_
        obtain ⟨x38, ex38, h9⟩ := nm_elim h8
        refine rn_iinc (pc := 189) (v := x38) (lv' := [(6, .int x38), (0, rv (some t0)), (3, .int i3)]) 2 dX12_mend_189 rfl (by rw [ex38]; rfl) (by decide) rfl ?_
        refine rn_goto (pc := 192) (tgt := 145) dX12_mend_192 (by decide) ?_
        cases h9
        exact rn_sub [1, 2, 0] rfl (k0 _ rfl)
      · refine rn_ine_t (pc := 174) (tgt := 187) dX12_mend_174 (by decide) c34 ?_
        refine rn_iconst (pc := 187) (v := -1) dX12_mend_187 (by decide) ?_
        obtain ⟨u39, hu39, h10⟩ := bnd_some h5
        refine rn_iast (pc := 188) dX12_mend_188 hu39 ?_
        obtain ⟨x40, ex40, h11⟩ := nm_elim h10
        refine rn_iinc (pc := 189) (v := x40) (lv' := [(6, .int x40), (0, rv (some t0)), (3, .int i3)]) 2 dX12_mend_189 rfl (by rw [ex40]; rfl) (by decide) rfl ?_
        refine rn_goto (pc := 192) (tgt := 145) dX12_mend_192 (by decide) ?_
        cases h11
        exact rn_sub [1, 2, 0] rfl (k0 _ rfl)
    · refine rn_ige_t (pc := 164) (tgt := 187) dX12_mend_164 (by decide) c33 ?_
      refine rn_iconst (pc := 187) (v := -1) dX12_mend_187 (by decide) ?_
      obtain ⟨u41, hu41, h12⟩ := bnd_some h4
      refine rn_iast (pc := 188) dX12_mend_188 hu41 ?_
      obtain ⟨x42, ex42, h13⟩ := nm_elim h12
      refine rn_iinc (pc := 189) (v := x42) (lv' := [(6, .int x42), (0, rv (some t0)), (3, .int i3)]) 2 dX12_mend_189 rfl (by rw [ex42]; rfl) (by decide) rfl ?_
      refine rn_goto (pc := 192) (tgt := 145) dX12_mend_192 (by decide) ?_
      cases h13
      exact rn_sub [1, 2, 0] rfl (k0 _ rfl)
  · refine rn_ige_t (pc := 149) (tgt := 195) dX12_mend_149 (by decide) c30 ?_
    cases h1
    exact rn_sub [0] rfl (k1 _ rfl)
theorem lX12_mend_145 {l : Launch} {G : Gt} {d : Nat} {t0 : Nat} {i3 : Int32} {N : Nat} {s0 : Int32 × Mem} {r : Mem} {o : Outcome} {u' : Mem} (h : lp (fun s : Int32 × Mem => bX12_mend_145 t0 i3 s.1 s.2) N s0 = some r) (k1 : Rn l G iX12_mend (d + 25) 195 [(0, rv (some t0))] [] r o u') : Rn l G iX12_mend (d + 25) 145 [(0, rv (some t0)), (3, .int i3), (6, .int s0.1)] [] s0.2 o u' :=
  lp_run (P := fun s : Int32 × Mem => Rn l G iX12_mend (d + 25) 145 [(0, rv (some t0)), (3, .int i3), (6, .int s.1)] [] s.2 o u') (E := fun r => Rn l G iX12_mend (d + 25) 195 [(0, rv (some t0))] [] r o u') (fun s y hy k0 kE => btX12_mend_145 hy (fun s' e => k0 s' e) (fun r e => kE r e)) N s0 r h k1
theorem tX12_mend {l : Launch} {G : Gt} {d : Nat} {t0 : Nat} {p1 : Int32} {p2 : Int32} {p3 : Int32} {u : Mem} {y : Int32 × Mem} (h : fX12_mend t0 p1 p2 p3 u = some y) : Rn l G iX12_mend (d + 25) 0 [(0, rv (some t0)), (1, .int p1), (2, .int p2), (3, .int p3)] [] u (.returned (some (.int y.1))) y.2 := by
  unfold fX12_mend at h
  refine rn_iload_n (pc := 0) 1 dX12_mend_0 rfl rfl ?_
  obtain ⟨v1, hv1, h1⟩ := bnd_some h
  refine rn_callS (pc := 1) (n := 1) (As := [.int p1]) (rest := []) (eX12_isGuesser (d := d + 23) hv1) (by omega) tw_1251 tw_79 tw_1249 tw_1250 (by decide +kernel) rfl (Nat.le_of_ble_eq_true rfl) dX12_mend_1 rfl ?_
  rcases if_elim h1 with ⟨c2, h2⟩ | ⟨c2, h2⟩
  · refine rn_zeq_t (pc := 4) (tgt := 31) dX12_mend_4 (by decide) c2 ?_
    refine rn_bipush (pc := 31) (v := -2) dX12_mend_31 (by decide) ?_
    cases h2
    exact rn_iret (pc := 33) rfl dX12_mend_33
  · refine rn_zeq_f (pc := 4) 31 dX12_mend_4 (by decide) c2 ?_
    refine rn_iload_n (pc := 7) 2 dX12_mend_7 rfl rfl ?_
    obtain ⟨v3, hv3, h3⟩ := bnd_some h2
    refine rn_callS (pc := 8) (n := 1) (As := [.int p2]) (rest := []) (eX12_isDay (d := d + 23) hv3) (by omega) tw_1235 tw_79 tw_1233 tw_1234 (by decide +kernel) rfl (Nat.le_of_ble_eq_true rfl) dX12_mend_8 rfl ?_
    rcases if_elim h3 with ⟨c4, h4⟩ | ⟨c4, h4⟩
    · refine rn_zeq_t (pc := 11) (tgt := 31) dX12_mend_11 (by decide) c4 ?_
      refine rn_bipush (pc := 31) (v := -2) dX12_mend_31 (by decide) ?_
      cases h4
      exact rn_iret (pc := 33) rfl dX12_mend_33
    · refine rn_zeq_f (pc := 11) 31 dX12_mend_11 (by decide) c4 ?_
      refine rn_iload_n (pc := 14) 3 dX12_mend_14 rfl rfl ?_
      refine rn_i2l (pc := 15) dX12_mend_15 ?_
      refine rn_lconst (pc := 16) (v := 1) dX12_mend_16 (by decide) ?_
      refine rn_lconst (pc := 17) (v := 1) dX12_mend_17 (by decide) ?_
      refine rn_aload_n (pc := 18) 0 dX12_mend_18 rfl rfl ?_
      obtain ⟨v5, hv5, h5⟩ := bnd_some h4
      refine rn_getI (pc := 19) (k := 25) okX12 (by decide) tw_1018 rfl dX12_mend_19 hv5 ?_
      refine rn_lshl (pc := 22) dX12_mend_22 ?_
      refine rn_lconst (pc := 23) (v := 1) dX12_mend_23 (by decide) ?_
      refine rn_lsub (pc := 24) dX12_mend_24 ?_
      obtain ⟨v6, hv6, h6⟩ := bnd_some h5
      refine rn_callS (pc := 25) (n := 3) (As := [.long (Int32.toInt64 p3), .long (1 : Int64), .long (((1 : Int64) <<< (Int32.toInt64 v5 &&& 63)) - (1 : Int64))]) (rest := []) (eX12_in (d := d + 24) hv6) (by omega) tw_1177 tw_79 tw_1175 tw_1176 (by decide +kernel) rfl (Nat.le_of_ble_eq_true rfl) dX12_mend_25 rfl ?_
      rcases if_elim h6 with ⟨c7, h7⟩ | ⟨c7, h7⟩
      · refine rn_zne_f (pc := 28) 34 dX12_mend_28 (by decide) c7 ?_
        refine rn_bipush (pc := 31) (v := -2) dX12_mend_31 (by decide) ?_
        cases h7
        exact rn_iret (pc := 33) rfl dX12_mend_33
      · refine rn_zne_t (pc := 28) (tgt := 34) dX12_mend_28 (by decide) c7 ?_
        refine rn_iconst (pc := 34) (v := 0) dX12_mend_34 (by decide) ?_
        refine rn_istore (pc := 35) (lv' := [(4, .int (0 : Int32)), (0, rv (some t0)), (1, .int p1), (2, .int p2), (3, .int p3)]) dX12_mend_35 (by decide) rfl ?_
        refine rn_iconst (pc := 37) (v := 1) dX12_mend_37 (by decide) ?_
        refine rn_istore (pc := 38) (lv' := [(5, .int (1 : Int32)), (4, .int (0 : Int32)), (0, rv (some t0)), (1, .int p1), (2, .int p2), (3, .int p3)]) dX12_mend_38 (by decide) rfl ?_
        refine rn_iconst (pc := 40) (v := 0) dX12_mend_40 (by decide) ?_
        refine rn_istore (pc := 41) (lv' := [(6, .int (0 : Int32)), (5, .int (1 : Int32)), (4, .int (0 : Int32)), (0, rv (some t0)), (1, .int p1), (2, .int p2), (3, .int p3)]) dX12_mend_41 (by decide) rfl ?_
        obtain ⟨r24, hr24, h8⟩ := bnd_some h7
        refine rn_sub [3, 4, 5, 6, 2, 1, 0] rfl (lX12_mend_43 hr24 ?_)
        refine rn_iload (pc := 111) 2 dX12_mend_111 rfl ?_
        refine rn_iconst (pc := 113) (v := 4) dX12_mend_113 (by decide) ?_
        rcases if_elim h8 with ⟨c25, h9⟩ | ⟨c25, h9⟩
        · refine rn_ile_f (pc := 114) 120 dX12_mend_114 (by decide) c25 ?_
          refine rn_bipush (pc := 117) (v := -3) dX12_mend_117 (by decide) ?_
          cases h9
          exact rn_iret (pc := 119) rfl dX12_mend_119
        · refine rn_ile_t (pc := 114) (tgt := 120) dX12_mend_114 (by decide) c25 ?_
          refine rn_iload (pc := 120) 3 dX12_mend_120 rfl ?_
          rcases if_elim h9 with ⟨c26, h10⟩ | ⟨c26, h10⟩
          · refine rn_zne_f (pc := 122) 128 dX12_mend_122 (by decide) c26 ?_
            refine rn_bipush (pc := 125) (v := -4) dX12_mend_125 (by decide) ?_
            cases h10
            exact rn_iret (pc := 127) rfl dX12_mend_127
          · refine rn_zne_t (pc := 122) (tgt := 128) dX12_mend_122 (by decide) c26 ?_
            refine rn_aload_n (pc := 128) 0 dX12_mend_128 rfl rfl ?_
            refine rn_sipush (pc := 129) (v := 1000) dX12_mend_129 (by decide) ?_
            obtain ⟨u27, hu27, h11⟩ := bnd_some h10
            refine rn_putI (pc := 132) (k := 55) okX12 (by decide) tw_1048 (Or.inl rfl) (Or.inl rfl) dX12_mend_132 hu27 ?_
            refine rn_aload_n (pc := 135) 0 dX12_mend_135 rfl rfl ?_
            refine rn_iload_n (pc := 136) 1 dX12_mend_136 rfl rfl ?_
            refine rn_iconst (pc := 137) (v := 0) dX12_mend_137 (by decide) ?_
            refine rn_iconst (pc := 138) (v := 0) dX12_mend_138 (by decide) ?_
            obtain ⟨b28, hb28, h12⟩ := bnd_some h11
            obtain ⟨qb28, kb28⟩ := chk_elim hb28
            cases qb28
            obtain ⟨u29, hu29, h13⟩ := bnd_some h12
            refine rn_callV (pc := 139) (n := 3) (As := [.int p3, .int (0 : Int32), .int (0 : Int32)]) (rest := []) (eX12_mendFrom 22 _ _ _ _ _ _ hu29) (by omega) okX12 kb28 tw_1388 tw_79 tw_1386 tw_1387 tw_65 (by decide +kernel) rfl (Nat.le_of_ble_eq_true rfl) dX12_mend_139 rfl ?_
            refine rn_iconst (pc := 142) (v := 0) dX12_mend_142 (by decide) ?_
            refine rn_istore (pc := 143) (lv' := [(6, .int (0 : Int32)), (0, rv (some t0)), (3, .int p3), (4, .int r24.1), (5, .int r24.2.1)]) dX12_mend_143 (by decide) rfl ?_
            obtain ⟨r43, hr43, h14⟩ := bnd_some h13
            refine rn_sub [1, 2, 0] rfl (lX12_mend_145 hr43 ?_)
            refine rn_aload_n (pc := 195) 0 dX12_mend_195 rfl rfl ?_
            obtain ⟨v44, hv44, h15⟩ := bnd_some h14
            refine rn_getI (pc := 196) (k := 55) okX12 (by decide) tw_1048 rfl dX12_mend_196 hv44 ?_
            cases h15
            exact rn_iret (pc := 199) rfl dX12_mend_199
theorem eX12_mend {l : Launch} {G : Gt} {d : Nat} {t0 : Nat} {p1 : Int32} {p2 : Int32} {p3 : Int32} {u : Mem} {y : Int32 × Mem} (h : fX12_mend t0 p1 p2 p3 u = some y) : Ex l G iX12_mend (d + 25) [rv (some t0), .int p1, .int p2, .int p3] u (.returned (some (.int y.1))) y.2 := Ex.of (by decide +kernel) (by decide) (Nat.le_of_ble_eq_true rfl) rfl (tX12_mend h)
theorem tX12_mended {l : Launch} {G : Gt} {d : Nat} {t0 : Nat} {p1 : Int32} {u : Mem} {y : Int32} (h : fX12_mended t0 p1 u = some y) : Rn l G iX12_mended (d + 1) 0 [(0, rv (some t0)), (1, .int p1)] [] u (.returned (some (.int y))) u := by
  unfold fX12_mended at h
  refine rn_iload_n (pc := 0) 1 dX12_mended_0 rfl rfl ?_
  refine rn_i2l (pc := 1) dX12_mended_1 ?_
  refine rn_lconst (pc := 2) (v := 0) dX12_mended_2 (by decide) ?_
  refine rn_ldc2 (pc := 3) tw_1252 dX12_mended_3 ?_
  obtain ⟨v1, hv1, h1⟩ := bnd_some h
  refine rn_callS (pc := 6) (n := 3) (As := [.long (Int32.toInt64 p1), .long (0 : Int64), .long (19 : Int64)]) (rest := []) (eX12_in (d := d + 0) hv1) (by omega) tw_1177 tw_79 tw_1175 tw_1176 (by decide +kernel) rfl (Nat.le_of_ble_eq_true rfl) dX12_mended_6 rfl ?_
  rcases if_elim h1 with ⟨c2, h2⟩ | ⟨c2, h2⟩
  · refine rn_zeq_t (pc := 9) (tgt := 21) dX12_mended_9 (by decide) c2 ?_
    refine rn_iconst (pc := 21) (v := -1) dX12_mended_21 (by decide) ?_
    cases h2
    exact rn_iret (pc := 22) rfl dX12_mended_22
  · refine rn_zeq_f (pc := 9) 21 dX12_mended_9 (by decide) c2 ?_
    refine rn_aload_n (pc := 12) 0 dX12_mended_12 rfl rfl ?_
    obtain ⟨v3, hv3, h3⟩ := bnd_some h2
    refine rn_getR (pc := 13) (k := 51) okX12 (by decide) tw_1044 rfl dX12_mended_13 hv3 ?_
    refine rn_iload_n (pc := 16) 1 dX12_mended_16 rfl rfl ?_
    obtain ⟨v4, hv4, h4⟩ := bnd_some h3
    refine rn_iald (pc := 17) dX12_mended_17 hv4 ?_
    refine rn_goto (pc := 18) (tgt := 22) dX12_mended_18 (by decide) ?_
    cases h4
    exact rn_iret (pc := 22) rfl dX12_mended_22
theorem eX12_mended {l : Launch} {G : Gt} {d : Nat} {t0 : Nat} {p1 : Int32} {u : Mem} {y : Int32} (h : fX12_mended t0 p1 u = some y) : Ex l G iX12_mended (d + 1) [rv (some t0), .int p1] u (.returned (some (.int y))) u := Ex.of (by decide +kernel) (by decide) (Nat.le_of_ble_eq_true rfl) rfl (tX12_mended h)
theorem btX12_count_64 {l : Launch} {G : Gt} {d : Nat} {t0 : Nat} {u : Mem} {s2 : Int32} {s3 : Int32} {y : (Int32 × Int32) ⊕ (Int32)} {o : Outcome} {u' : Mem} (h : bX12_count_64 t0 u s2 s3 = some y) (k0 : ∀ s' : Int32 × Int32, y = .inl s' → Rn l G iX12_count (d + 6) 64 [(0, rv (some t0)), (2, .int s'.1), (3, .int s'.2)] [] u o u') (k1 : ∀ r : Int32, y = .inr (r) → Rn l G iX12_count (d + 6) 93 [(2, .int r)] [] u o u') : Rn l G iX12_count (d + 6) 64 [(0, rv (some t0)), (2, .int s2), (3, .int s3)] [] u o u' := by
  unfold bX12_count_64 at h
  refine rn_iload_n (pc := 64) 2 dX12_count_64 rfl rfl ?_
  refine rn_bipush (pc := 65) (v := 20) dX12_count_65 (by decide) ?_
  rcases if_elim h with ⟨c12, h1⟩ | ⟨c12, h1⟩
  · refine rn_ige_f (pc := 67) 93 dX12_count_67 (by decide) c12 ?_
    refine rn_iload_n (pc := 70) 1 dX12_count_70 rfl rfl ?_
    refine rn_aload_n (pc := 71) 0 dX12_count_71 rfl rfl ?_
    obtain ⟨v13, hv13, h2⟩ := bnd_some h1
    refine rn_getR (pc := 72) (k := 48) okX12 (by decide) tw_1041 rfl dX12_count_72 hv13 ?_
    refine rn_iload_n (pc := 75) 2 dX12_count_75 rfl rfl ?_
    obtain ⟨v14, hv14, h3⟩ := bnd_some h2
    refine rn_iald (pc := 76) dX12_count_76 hv14 ?_
    rcases if_elim h3 with ⟨c15, h4⟩ | ⟨c15, h4⟩
    · refine rn_zle_f (pc := 77) 84 dX12_count_77 (by decide) c15 ?_
      refine rn_iconst (pc := 80) (v := 1) dX12_count_80 (by decide) ?_
      refine rn_goto (pc := 81) (tgt := 85) dX12_count_81 (by decide) ?_
      refine rn_iadd (pc := 85) dX12_count_85 ?_
      obtain ⟨x16, ex16, h5⟩ := nm_elim h4
      refine rn_topi ex16 ?_
      refine rn_istore_n (pc := 86) (lv' := [(2, .int x16), (0, rv (some t0)), (3, .int s3)]) dX12_count_86 rfl (by decide) rfl ?_
      obtain ⟨x17, ex17, h6⟩ := nm_elim h5
      refine rn_iinc (pc := 87) (v := x17) (lv' := [(3, .int x17), (2, .int x16), (0, rv (some t0))]) 2 dX12_count_87 rfl (by rw [ex17]; rfl) (by decide) rfl ?_
      refine rn_goto (pc := 90) (tgt := 64) dX12_count_90 (by decide) ?_
      cases h6
      exact rn_sub [2, 1, 0] rfl (k0 _ rfl)
    · refine rn_zle_t (pc := 77) (tgt := 84) dX12_count_77 (by decide) c15 ?_
      refine rn_iconst (pc := 84) (v := 0) dX12_count_84 (by decide) ?_
      refine rn_iadd (pc := 85) dX12_count_85 ?_
      obtain ⟨x18, ex18, h7⟩ := nm_elim h4
      refine rn_topi ex18 ?_
      refine rn_istore_n (pc := 86) (lv' := [(2, .int x18), (0, rv (some t0)), (3, .int s3)]) dX12_count_86 rfl (by decide) rfl ?_
      obtain ⟨x19, ex19, h8⟩ := nm_elim h7
      refine rn_iinc (pc := 87) (v := x19) (lv' := [(3, .int x19), (2, .int x18), (0, rv (some t0))]) 2 dX12_count_87 rfl (by rw [ex19]; rfl) (by decide) rfl ?_
      refine rn_goto (pc := 90) (tgt := 64) dX12_count_90 (by decide) ?_
      cases h8
      exact rn_sub [2, 1, 0] rfl (k0 _ rfl)
  · refine rn_ige_t (pc := 67) (tgt := 93) dX12_count_67 (by decide) c12 ?_
    cases h1
    exact rn_sub [1] rfl (k1 _ rfl)
theorem lX12_count_64 {l : Launch} {G : Gt} {d : Nat} {t0 : Nat} {u : Mem} {N : Nat} {s0 : Int32 × Int32} {r : Int32} {o : Outcome} {u' : Mem} (h : lp (fun s : Int32 × Int32 => bX12_count_64 t0 u s.1 s.2) N s0 = some r) (k1 : Rn l G iX12_count (d + 6) 93 [(2, .int r)] [] u o u') : Rn l G iX12_count (d + 6) 64 [(0, rv (some t0)), (2, .int s0.1), (3, .int s0.2)] [] u o u' :=
  lp_run (P := fun s : Int32 × Int32 => Rn l G iX12_count (d + 6) 64 [(0, rv (some t0)), (2, .int s.1), (3, .int s.2)] [] u o u') (E := fun r => Rn l G iX12_count (d + 6) 93 [(2, .int r)] [] u o u') (fun s y hy k0 kE => btX12_count_64 hy (fun s' e => k0 s' e) (fun r e => kE r e)) N s0 r h k1
theorem tX12_count {l : Launch} {G : Gt} {d : Nat} {t0 : Nat} {p1 : Int32} {u : Mem} {y : Int32 × Mem} (h : fX12_count t0 p1 u = some y) : Rn l G iX12_count (d + 6) 0 [(0, rv (some t0)), (1, .int p1)] [] u (.returned (some (.int y.1))) y.2 := by
  unfold fX12_count at h
  refine rn_iload_n (pc := 0) 1 dX12_count_0 rfl rfl ?_
  rcases if_elim h with ⟨c1, h1⟩ | ⟨c1, h1⟩
  · refine rn_tsw_in (pc := 1) (tgt := 36) (off := 35) 0 dX12_count_1 c1 (by decide) (by decide) ?_
    refine rn_aload_n (pc := 36) 0 dX12_count_36 rfl rfl ?_
    obtain ⟨v2, hv2, h2⟩ := bnd_some h1
    refine rn_getI (pc := 37) (k := 25) okX12 (by decide) tw_1018 rfl dX12_count_37 hv2 ?_
    cases h2
    exact rn_iret (pc := 40) rfl dX12_count_40
  · skip
    rcases if_elim h1 with ⟨c3, h3⟩ | ⟨c3, h3⟩
    · refine rn_tsw_in (pc := 1) (tgt := 41) (off := 40) 1 dX12_count_1 c3 (by decide) (by decide) ?_
      refine rn_aload_n (pc := 41) 0 dX12_count_41 rfl rfl ?_
      obtain ⟨v4, hv4, h4⟩ := bnd_some h3
      refine rn_getI (pc := 42) (k := 26) okX12 (by decide) tw_1019 rfl dX12_count_42 hv4 ?_
      cases h4
      exact rn_iret (pc := 45) rfl dX12_count_45
    · skip
      rcases if_elim h3 with ⟨c5, h5⟩ | ⟨c5, h5⟩
      · refine rn_tsw_in (pc := 1) (tgt := 46) (off := 45) 2 dX12_count_1 c5 (by decide) (by decide) ?_
        refine rn_aload_n (pc := 46) 0 dX12_count_46 rfl rfl ?_
        obtain ⟨v6, hv6, h6⟩ := bnd_some h5
        refine rn_getI (pc := 47) (k := 27) okX12 (by decide) tw_1020 rfl dX12_count_47 hv6 ?_
        cases h6
        exact rn_iret (pc := 50) rfl dX12_count_50
      · skip
        rcases if_elim h5 with ⟨c7, h7⟩ | ⟨c7, h7⟩
        · refine rn_tsw_in (pc := 1) (tgt := 51) (off := 50) 3 dX12_count_1 c7 (by decide) (by decide) ?_
          refine rn_aload_n (pc := 51) 0 dX12_count_51 rfl rfl ?_
          obtain ⟨v8, hv8, h8⟩ := bnd_some h7
          refine rn_getI (pc := 52) (k := 16) okX12 (by decide) tw_1009 rfl dX12_count_52 hv8 ?_
          cases h8
          exact rn_iret (pc := 55) rfl dX12_count_55
        · skip
          rcases if_elim h7 with ⟨c9, h9⟩ | ⟨c9, h9⟩
          · refine rn_tsw_in (pc := 1) (tgt := 56) (off := 55) 4 dX12_count_1 c9 (by decide) (by decide) ?_
            refine rn_aload_n (pc := 56) 0 dX12_count_56 rfl rfl ?_
            obtain ⟨b10, hb10, h10⟩ := bnd_some h9
            obtain ⟨qb10, kb10⟩ := chk_elim hb10
            cases qb10
            obtain ⟨u11, hu11, h11⟩ := bnd_some h10
            refine rn_callV (pc := 57) (n := 0) (As := []) (rest := []) (eX12_findMeans (d := d + 0) hu11) (by omega) okX12 kb10 tw_1312 tw_79 tw_1310 tw_1311 tw_54 (by decide +kernel) rfl (Nat.le_of_ble_eq_true rfl) dX12_count_57 rfl ?_
            refine rn_iconst (pc := 60) (v := 0) dX12_count_60 (by decide) ?_
            refine rn_istore_n (pc := 61) (lv' := [(2, .int (0 : Int32)), (0, rv (some t0)), (1, .int p1)]) dX12_count_61 rfl (by decide) rfl ?_
            refine rn_iconst (pc := 62) (v := 0) dX12_count_62 (by decide) ?_
            refine rn_istore_n (pc := 63) (lv' := [(3, .int (0 : Int32)), (2, .int (0 : Int32)), (0, rv (some t0)), (1, .int p1)]) dX12_count_63 rfl (by decide) rfl ?_
            obtain ⟨r20, hr20, h12⟩ := bnd_some h11
            refine rn_sub [2, 1, 0] rfl (lX12_count_64 hr20 ?_)
            refine rn_iload_n (pc := 93) 0 dX12_count_93 rfl rfl ?_
            cases h12
            exact rn_iret (pc := 94) rfl dX12_count_94
          · skip
            refine rn_tsw_out (pc := 1) (tgt := 95) dX12_count_1 (sw_out (n := 4) (lt_s (lt_s (lt_s (lt_s (lt_s (lt_0) c1) c3) c5) c7) c9)) (by decide) ?_
            refine rn_iconst (pc := 95) (v := -1) dX12_count_95 (by decide) ?_
            cases h9
            exact rn_iret (pc := 96) rfl dX12_count_96
theorem eX12_count {l : Launch} {G : Gt} {d : Nat} {t0 : Nat} {p1 : Int32} {u : Mem} {y : Int32 × Mem} (h : fX12_count t0 p1 u = some y) : Ex l G iX12_count (d + 6) [rv (some t0), .int p1] u (.returned (some (.int y.1))) y.2 := Ex.of (by decide +kernel) (by decide) (Nat.le_of_ble_eq_true rfl) rfl (tX12_count h)
