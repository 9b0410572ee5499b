abbrev iJ7_fill_53178 : MI := (yJ7_fill_53178, cJ7_fill_53178, 4, (Option.none : Option FieldType))
def bJ7_fill_53178_5 (i0 : Option Nat) (i1 : Int32) (i3 : Int32) (s2 : Int32) (u : Mem) : Option ((Int32 × Mem) ⊕ (Mem)) :=
  if s2 < i3 then
    (asI u i0 20 s2 i1).bind fun u3 =>
    nm (s2 + 1 : Int32) fun x4 =>
    some (.inl (x4, u3))
  else
    some (.inr u)
def fJ7_fill_53178 (p0 : Option Nat) (p1 : Int32) (u : Mem) : Option (Mem) :=
  (aln u p0 20).bind fun v1 =>
  (lp (fun s : Int32 × Mem => bJ7_fill_53178_5 p0 p1 v1 s.1 s.2) FU ((0 : Int32), u)).bind fun r5 =>
  some r5
abbrev iJ6_bitCount_0f7a4 : MI := (yJ6_bitCount_0f7a4, cJ6_bitCount_0f7a4, 1, (some .int))
def fJ6_bitCount_0f7a4 (p0 : Int32) (u : Mem) : Option (Int32) :=
  nm (p0 - (((p0.toUInt32 >>> (Int32.toUInt32 (1 : Int32) &&& Int32.toUInt32 31)).toInt32) &&& (1431655765 : Int32)) : Int32) fun x1 =>
  nm ((x1 &&& (858993459 : Int32)) + (((x1.toUInt32 >>> (Int32.toUInt32 (2 : Int32) &&& Int32.toUInt32 31)).toInt32) &&& (858993459 : Int32)) : Int32) fun x2 =>
  nm ((x2 + ((x2.toUInt32 >>> (Int32.toUInt32 (4 : Int32) &&& Int32.toUInt32 31)).toInt32)) &&& (252645135 : Int32) : Int32) fun x3 =>
  nm (x3 + ((x3.toUInt32 >>> (Int32.toUInt32 (8 : Int32) &&& Int32.toUInt32 31)).toInt32) : Int32) fun x4 =>
  nm (x4 + ((x4.toUInt32 >>> (Int32.toUInt32 (16 : Int32) &&& Int32.toUInt32 31)).toInt32) : Int32) fun x5 =>
  some (x5 &&& (63 : Int32))
theorem btJ7_fill_53178_5 {l : Launch} {G : Gt} {d : Nat} {i0 : Option Nat} {i1 : Int32} {i3 : Int32} {s2 : Int32} {u : Mem} {y : (Int32 × Mem) ⊕ (Mem)} {o : Outcome} {u' : Mem} (h : bJ7_fill_53178_5 i0 i1 i3 s2 u = some y) (k0 : ∀ s' : Int32 × Mem, y = .inl s' → Rn l G iJ7_fill_53178 d 5 [(0, rv i0), (1, .int i1), (2, .int s'.1), (3, .int i3)] [] s'.2 o u') (k1 : ∀ r : Mem, y = .inr (r) → Rn l G iJ7_fill_53178 d 20 [] [] r o u') : Rn l G iJ7_fill_53178 d 5 [(0, rv i0), (1, .int i1), (2, .int s2), (3, .int i3)] [] u o u' := by
  unfold bJ7_fill_53178_5 at h
  refine rn_iload_n (pc := 5) 2 dJ7_fill_53178_5 rfl rfl ?_
  refine rn_iload_n (pc := 6) 3 dJ7_fill_53178_6 rfl rfl ?_
  rcases if_elim h with ⟨c2, h1⟩ | ⟨c2, h1⟩
  · refine rn_ige_f (pc := 7) 20 dJ7_fill_53178_7 (by decide) c2 ?_
    refine rn_aload_n (pc := 10) 0 dJ7_fill_53178_10 rfl rfl ?_
    refine rn_iload_n (pc := 11) 2 dJ7_fill_53178_11 rfl rfl ?_
    refine rn_iload_n (pc := 12) 1 dJ7_fill_53178_12 rfl rfl ?_
    obtain ⟨u3, hu3, h2⟩ := bnd_some h1
    refine rn_iast (pc := 13) dJ7_fill_53178_13 hu3 ?_
    obtain ⟨x4, ex4, h3⟩ := nm_elim h2
    refine rn_iinc (pc := 14) (v := x4) (lv' := [(2, .int x4), (0, rv i0), (1, .int i1), (3, .int i3)]) 2 dJ7_fill_53178_14 rfl (by rw [ex4]; rfl) (by decide) rfl ?_
    refine rn_goto (pc := 17) (tgt := 5) dJ7_fill_53178_17 (by decide) ?_
    cases h3
    exact rn_sub [1, 2, 0, 3] rfl (k0 _ rfl)
  · refine rn_ige_t (pc := 7) (tgt := 20) dJ7_fill_53178_7 (by decide) c2 ?_
    cases h1
    exact rn_sub [] rfl (k1 _ rfl)
theorem lJ7_fill_53178_5 {l : Launch} {G : Gt} {d : Nat} {i0 : Option Nat} {i1 : Int32} {i3 : Int32} {N : Nat} {s0 : Int32 × Mem} {r : Mem} {o : Outcome} {u' : Mem} (h : lp (fun s : Int32 × Mem => bJ7_fill_53178_5 i0 i1 i3 s.1 s.2) N s0 = some r) (k1 : Rn l G iJ7_fill_53178 d 20 [] [] r o u') : Rn l G iJ7_fill_53178 d 5 [(0, rv i0), (1, .int i1), (2, .int s0.1), (3, .int i3)] [] s0.2 o u' :=
  lp_run (P := fun s : Int32 × Mem => Rn l G iJ7_fill_53178 d 5 [(0, rv i0), (1, .int i1), (2, .int s.1), (3, .int i3)] [] s.2 o u') (E := fun r => Rn l G iJ7_fill_53178 d 20 [] [] r o u') (fun s y hy k0 kE => btJ7_fill_53178_5 hy (fun s' e => k0 s' e) (fun r e => kE r e)) N s0 r h k1
theorem tJ7_fill_53178 {l : Launch} {G : Gt} {d : Nat} {p0 : Option Nat} {p1 : Int32} {u : Mem} {y : Mem} (h : fJ7_fill_53178 p0 p1 u = some y) : Rn l G iJ7_fill_53178 d 0 [(0, rv p0), (1, .int p1)] [] u (.returned none) y := by
  unfold fJ7_fill_53178 at h
  refine rn_iconst (pc := 0) (v := 0) dJ7_fill_53178_0 (by decide) ?_
  refine rn_istore_n (pc := 1) (lv' := [(2, .int (0 : Int32)), (0, rv p0), (1, .int p1)]) dJ7_fill_53178_1 rfl (by decide) rfl ?_
  refine rn_aload_n (pc := 2) 1 dJ7_fill_53178_2 rfl rfl ?_
  obtain ⟨v1, hv1, h1⟩ := bnd_some h
  refine rn_alen (pc := 3) 20 (by decide) dJ7_fill_53178_3 hv1 ?_
  refine rn_istore_n (pc := 4) (lv' := [(3, .int v1), (2, .int (0 : Int32)), (0, rv p0), (1, .int p1)]) dJ7_fill_53178_4 rfl (by decide) rfl ?_
  obtain ⟨r5, hr5, h2⟩ := bnd_some h1
  refine rn_sub [2, 3, 1, 0] rfl (lJ7_fill_53178_5 hr5 ?_)
  cases h2
  exact rn_vret (pc := 20) rfl dJ7_fill_53178_20
theorem eJ7_fill_53178 {l : Launch} {G : Gt} {d : Nat} {p0 : Option Nat} {p1 : Int32} {u : Mem} {y : Mem} (h : fJ7_fill_53178 p0 p1 u = some y) : Ex l G iJ7_fill_53178 d [rv p0, .int p1] u (.returned none) y := Ex.of (by decide +kernel) (by decide) (by cases p0 <;> exact Nat.le_of_ble_eq_true rfl) (by cases p0 <;> rfl) (tJ7_fill_53178 h)
theorem tJ6_bitCount_0f7a4 {l : Launch} {G : Gt} {d : Nat} {p0 : Int32} {u : Mem} {y : Int32} (h : fJ6_bitCount_0f7a4 p0 u = some y) : Rn l G iJ6_bitCount_0f7a4 d 0 [(0, .int p0)] [] u (.returned (some (.int y))) u := by
  unfold fJ6_bitCount_0f7a4 at h
  refine rn_iload_n (pc := 0) 0 dJ6_bitCount_0f7a4_0 rfl rfl ?_
  refine rn_iload_n (pc := 1) 0 dJ6_bitCount_0f7a4_1 rfl rfl ?_
  refine rn_iconst (pc := 2) (v := 1) dJ6_bitCount_0f7a4_2 (by decide) ?_
  refine rn_iushr (pc := 3) dJ6_bitCount_0f7a4_3 ?_
  refine rn_ldcw (pc := 4) tw_885 dJ6_bitCount_0f7a4_4 ?_
  refine rn_iand (pc := 7) dJ6_bitCount_0f7a4_7 ?_
  refine rn_isub (pc := 8) dJ6_bitCount_0f7a4_8 ?_
  obtain ⟨x1, ex1, h1⟩ := nm_elim h
  refine rn_topi ex1 ?_
  refine rn_istore_n (pc := 9) (lv' := [(0, .int x1)]) dJ6_bitCount_0f7a4_9 rfl (by decide) rfl ?_
  refine rn_iload_n (pc := 10) 0 dJ6_bitCount_0f7a4_10 rfl rfl ?_
  refine rn_ldcw (pc := 11) tw_886 dJ6_bitCount_0f7a4_11 ?_
  refine rn_iand (pc := 14) dJ6_bitCount_0f7a4_14 ?_
  refine rn_iload_n (pc := 15) 0 dJ6_bitCount_0f7a4_15 rfl rfl ?_
  refine rn_iconst (pc := 16) (v := 2) dJ6_bitCount_0f7a4_16 (by decide) ?_
  refine rn_iushr (pc := 17) dJ6_bitCount_0f7a4_17 ?_
  refine rn_ldcw (pc := 18) tw_886 dJ6_bitCount_0f7a4_18 ?_
  refine rn_iand (pc := 21) dJ6_bitCount_0f7a4_21 ?_
  refine rn_iadd (pc := 22) dJ6_bitCount_0f7a4_22 ?_
  obtain ⟨x2, ex2, h2⟩ := nm_elim h1
  refine rn_topi ex2 ?_
  refine rn_istore_n (pc := 23) (lv' := [(0, .int x2)]) dJ6_bitCount_0f7a4_23 rfl (by decide) rfl ?_
  refine rn_iload_n (pc := 24) 0 dJ6_bitCount_0f7a4_24 rfl rfl ?_
  refine rn_iload_n (pc := 25) 0 dJ6_bitCount_0f7a4_25 rfl rfl ?_
  refine rn_iconst (pc := 26) (v := 4) dJ6_bitCount_0f7a4_26 (by decide) ?_
  refine rn_iushr (pc := 27) dJ6_bitCount_0f7a4_27 ?_
  refine rn_iadd (pc := 28) dJ6_bitCount_0f7a4_28 ?_
  refine rn_ldcw (pc := 29) tw_887 dJ6_bitCount_0f7a4_29 ?_
  refine rn_iand (pc := 32) dJ6_bitCount_0f7a4_32 ?_
  obtain ⟨x3, ex3, h3⟩ := nm_elim h2
  refine rn_topi ex3 ?_
  refine rn_istore_n (pc := 33) (lv' := [(0, .int x3)]) dJ6_bitCount_0f7a4_33 rfl (by decide) rfl ?_
  refine rn_iload_n (pc := 34) 0 dJ6_bitCount_0f7a4_34 rfl rfl ?_
  refine rn_iload_n (pc := 35) 0 dJ6_bitCount_0f7a4_35 rfl rfl ?_
  refine rn_bipush (pc := 36) (v := 8) dJ6_bitCount_0f7a4_36 (by decide) ?_
  refine rn_iushr (pc := 38) dJ6_bitCount_0f7a4_38 ?_
  refine rn_iadd (pc := 39) dJ6_bitCount_0f7a4_39 ?_
  obtain ⟨x4, ex4, h4⟩ := nm_elim h3
  refine rn_topi ex4 ?_
  refine rn_istore_n (pc := 40) (lv' := [(0, .int x4)]) dJ6_bitCount_0f7a4_40 rfl (by decide) rfl ?_
  refine rn_iload_n (pc := 41) 0 dJ6_bitCount_0f7a4_41 rfl rfl ?_
  refine rn_iload_n (pc := 42) 0 dJ6_bitCount_0f7a4_42 rfl rfl ?_
  refine rn_bipush (pc := 43) (v := 16) dJ6_bitCount_0f7a4_43 (by decide) ?_
  refine rn_iushr (pc := 45) dJ6_bitCount_0f7a4_45 ?_
  refine rn_iadd (pc := 46) dJ6_bitCount_0f7a4_46 ?_
  obtain ⟨x5, ex5, h5⟩ := nm_elim h4
  refine rn_topi ex5 ?_
  refine rn_istore_n (pc := 47) (lv' := [(0, .int x5)]) dJ6_bitCount_0f7a4_47 rfl (by decide) rfl ?_
  refine rn_iload_n (pc := 48) 0 dJ6_bitCount_0f7a4_48 rfl rfl ?_
  refine rn_bipush (pc := 49) (v := 63) dJ6_bitCount_0f7a4_49 (by decide) ?_
  refine rn_iand (pc := 51) dJ6_bitCount_0f7a4_51 ?_
  cases h5
  exact rn_iret (pc := 52) rfl dJ6_bitCount_0f7a4_52
theorem eJ6_bitCount_0f7a4 {l : Launch} {G : Gt} {d : Nat} {p0 : Int32} {u : Mem} {y : Int32} (h : fJ6_bitCount_0f7a4 p0 u = some y) : Ex l G iJ6_bitCount_0f7a4 d [.int p0] u (.returned (some (.int y))) u := Ex.of (by decide +kernel) (by decide) (Nat.le_of_ble_eq_true rfl) rfl (tJ6_bitCount_0f7a4 h)
