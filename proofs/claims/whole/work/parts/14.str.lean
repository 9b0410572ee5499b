/-! String.length, String.charAt over the literals -/
abbrev iJ0_coder_7d493 : MI := (yJ0_coder_7d493, cJ0_coder_7d493, 1, (some .byte))
abbrev iJ0_isLatin1_aae02 : MI := (yJ0_isLatin1_aae02, cJ0_isLatin1_aae02, 1, (some .boolean))
abbrev iJ3_checkIndex_8e157 : MI := (yJ3_checkIndex_8e157, cJ3_checkIndex_8e157, 3, (some .int))
abbrev iJ0_checkIndex_df160 : MI := (yJ0_checkIndex_df160, cJ0_checkIndex_df160, 2, (Option.none : Option FieldType))
abbrev iJ1_charAt_3b067 : MI := (yJ1_charAt_3b067, cJ1_charAt_3b067, 2, (some .char))
abbrev iJ0_length_8abf5 : MI := (yJ0_length_8abf5, cJ0_length_8abf5, 1, (some .int))
abbrev iJ0_charAt_5068e : MI := (yJ0_charAt_5068e, cJ0_charAt_5068e, 2, (some .char))
section STR
variable {l : Launch} {G : Gt} {M : MI} {d pc : Nat} {lv : List (Nat × Value)} {st rest : List Value} {u u' : Mem} {o : Outcome} {idx i : Nat}
theorem e_coder (hi : i < 10) : Ex l G iJ0_coder_7d493 d [rv (some (1000000 + i))] u (.returned (some (.int 0))) u := Ex.of (by decide +kernel) (by decide) (Nat.le_of_ble_eq_true rfl) rfl (by
  refine rn_getsC (pc := 0) tw_502 dJ0_coder_7d493_0 ?_
  refine rn_zeq_f (pc := 3) 13 dJ0_coder_7d493_3 (by decide) (by decide) ?_
  refine rn_aload_n (pc := 6) 0 dJ0_coder_7d493_6 rfl rfl ?_
  refine rn_strCoder (pc := 7) hi tw_1404 dJ0_coder_7d493_7 ?_
  refine rn_goto (pc := 10) (tgt := 14) dJ0_coder_7d493_10 (by decide) ?_
  exact rn_nret (pc := 14) rfl rfl dJ0_coder_7d493_14)
theorem e_isLatin1 (hi : i < 10) : Ex l G iJ0_isLatin1_aae02 d [rv (some (1000000 + i))] u (.returned (some (.int 1))) u := Ex.of (by decide +kernel) (by decide) (Nat.le_of_ble_eq_true rfl) rfl (by
  refine rn_getsC (pc := 0) tw_502 dJ0_isLatin1_aae02_0 ?_
  refine rn_zeq_f (pc := 3) 17 dJ0_isLatin1_aae02_3 (by decide) (by decide) ?_
  refine rn_aload_n (pc := 6) 0 dJ0_isLatin1_aae02_6 rfl rfl ?_
  refine rn_strCoder (pc := 7) hi tw_1404 dJ0_isLatin1_aae02_7 ?_
  refine rn_zne_f (pc := 10) 17 dJ0_isLatin1_aae02_10 (by decide) rfl ?_
  refine rn_iconst (pc := 13) (v := 1) dJ0_isLatin1_aae02_13 (by decide) ?_
  refine rn_goto (pc := 14) (tgt := 18) dJ0_isLatin1_aae02_14 (by decide) ?_
  exact rn_nret (pc := 18) rfl rfl dJ0_isLatin1_aae02_18)
theorem e_length (hi : i < 10) : Ex l G iJ0_length_8abf5 (d + 1) [rv (some (1000000 + i))] u (.returned (some (.int (Int32.ofNat (stL.getD i 0))))) u := Ex.of (by decide +kernel) (by decide) (Nat.le_of_ble_eq_true rfl) rfl (by
  refine rn_aload_n (pc := 0) 0 dJ0_length_8abf5_0 rfl rfl ?_
  refine rn_strVal (pc := 1) hi tw_1403 dJ0_length_8abf5_1 ?_
  refine rn_strAln (pc := 4) hi dJ0_length_8abf5_4 ?_
  refine rn_aload_n (pc := 5) 0 dJ0_length_8abf5_5 rfl rfl ?_
  refine rn_callVs (pc := 6) (n := 0) (As := []) (rest := [.int (Int32.ofNat (stL.getD i 0))]) (e_coder (d := d) hi) (by omega) hi rfl tw_501 tw_83 tw_498 tw_499 tw_500 (by decide +kernel) rfl (Nat.le_of_ble_eq_true rfl) dJ0_length_8abf5_6 rfl ?_
  refine rn_ishr (pc := 9) dJ0_length_8abf5_9 ?_
  have hq : stL.getD i 0 < 2 ^ 31 := by
    have : ∀ i, i < 10 → stL.getD i 0 < 2 ^ 31 := by decide
    exact this i hi
  refine rn_topi (y := Int32.ofNat (stL.getD i 0)) (sc_shr0 hq).symm ?_
  exact rn_iret (pc := 10) rfl dJ0_length_8abf5_10)
theorem e_precond {a b : Int32} {r : Option Nat} (h0 : ¬ a < 0) (h1 : a < b) : Ex l G iJ3_checkIndex_8e157 d [.int a, .int b, rv r] u (.returned (some (.int a))) u := Ex.of (by decide +kernel) (by decide) (by cases r <;> exact Nat.le_of_ble_eq_true rfl) (lv := [(0, .int a), (1, .int b), (2, rv r)]) (by cases r <;> rfl) (by
  refine rn_iload_n (pc := 0) 0 dJ3_checkIndex_8e157_0 rfl rfl ?_
  refine rn_zlt_f (pc := 1) 9 dJ3_checkIndex_8e157_1 (by decide) h0 ?_
  refine rn_iload_n (pc := 4) 0 dJ3_checkIndex_8e157_4 rfl rfl ?_
  refine rn_iload_n (pc := 5) 1 dJ3_checkIndex_8e157_5 rfl rfl ?_
  refine rn_ilt_t (pc := 6) (tgt := 16) dJ3_checkIndex_8e157_6 (by decide) h1 ?_
  refine rn_iload_n (pc := 16) 0 dJ3_checkIndex_8e157_16 rfl rfl ?_
  exact rn_iret (pc := 17) rfl dJ3_checkIndex_8e157_17)
theorem e_checkIndex {a b : Int32} (h0 : ¬ a < 0) (h1 : a < b) : Ex l G iJ0_checkIndex_df160 (d + 1) [.int a, .int b] u (.returned none) u := Ex.of (by decide +kernel) (by decide) (Nat.le_of_ble_eq_true rfl) rfl (by
  refine rn_iload_n (pc := 0) 0 dJ0_checkIndex_df160_0 rfl rfl ?_
  refine rn_iload_n (pc := 1) 1 dJ0_checkIndex_df160_1 rfl rfl ?_
  refine rn_getsE0 (pc := 2) tw_517 dJ0_checkIndex_df160_2 ?_
  refine rn_callS (pc := 5) (n := 3) (As := [.int a, .int b, rv (exs G 0)]) (rest := []) (e_precond (d := d) h0 h1) (by omega) tw_520 tw_85 tw_518 tw_519 (by decide +kernel) rfl (Nat.le_of_ble_eq_true rfl) dJ0_checkIndex_df160_5 rfl ?_
  refine rn_pop (pc := 8) dJ0_checkIndex_df160_8 rfl ?_
  exact rn_vret (pc := 9) rfl dJ0_checkIndex_df160_9)
def stC (i : Nat) (j : Int32) : Int32 := (stB.getD i []).getD j.toNatClampNeg 0
theorem stC_all : ∀ i, i < 10 → ∀ k, k < 8 → ((((stB.getD i []).getD k 0 &&& 255).toUInt32 % 65536).toInt32 = (stB.getD i []).getD k 0 ∧ narrow .char (.int ((stB.getD i []).getD k 0)) = .int ((stB.getD i []).getD k 0)) := by decide +kernel
theorem stL_8 : ∀ i, i < 10 → stL.getD i 0 ≤ 8 := by decide
theorem e_latin {j : Int32} (hi : i < 10) (hj : inb j (stL.getD i 0) = true) : Ex l G iJ1_charAt_3b067 (d + 2) [rv (some (1000000 + (100 + i))), .int j] u (.returned (some (.int (stC i j)))) u := Ex.of (by decide +kernel) (by decide) (Nat.le_of_ble_eq_true rfl) rfl (by
  have hv := vp_in_iff.mp (inb_spec hj)
  have h8 := stL_8 i hi
  have h0 : ¬ j < 0 := fun q => inb_spec hj (Or.inl q)
  have hlt : j.toNatClampNeg < stL.getD i 0 := Nat.not_le.mp fun q => inb_spec hj (Or.inr q)
  have h1 : j < Int32.ofNat (stL.getD i 0) := by
    obtain ⟨k, hk, rfl⟩ := vp_in_of (inb_spec hj) (by omega)
    exact nI_lt hk (by omega)
  refine rn_iload_n (pc := 0) 1 dJ1_charAt_3b067_0 rfl rfl ?_
  refine rn_aload_n (pc := 1) 0 dJ1_charAt_3b067_1 rfl rfl ?_
  refine rn_strAln (pc := 2) hi dJ1_charAt_3b067_2 ?_
  refine rn_callS (pc := 3) (n := 2) (As := [.int j, .int (Int32.ofNat (stL.getD i 0))]) (rest := []) (e_checkIndex (d := d) h0 h1) (by omega) tw_516 tw_83 tw_514 tw_515 (by decide +kernel) rfl (Nat.le_of_ble_eq_true rfl) dJ1_charAt_3b067_3 rfl ?_
  refine rn_aload_n (pc := 6) 0 dJ1_charAt_3b067_6 rfl rfl ?_
  refine rn_iload_n (pc := 7) 1 dJ1_charAt_3b067_7 rfl rfl ?_
  refine rn_strBald (pc := 8) hi hj dJ1_charAt_3b067_8 ?_
  refine rn_sipush (pc := 9) (v := 255) dJ1_charAt_3b067_9 (by decide) ?_
  refine rn_iand (pc := 12) dJ1_charAt_3b067_12 ?_
  refine rn_i2c (pc := 13) dJ1_charAt_3b067_13 ?_
  have hq := stC_all i hi j.toNatClampNeg (by omega)
  refine rn_topi (y := stC i j) hq.1.symm ?_
  exact rn_nret (pc := 14) hq.2 rfl dJ1_charAt_3b067_14)
theorem e_charAt {j : Int32} (hi : i < 10) (hj : inb j (stL.getD i 0) = true) : Ex l G iJ0_charAt_5068e (d + 3) [rv (some (1000000 + i)), .int j] u (.returned (some (.int (stC i j)))) u := Ex.of (by decide +kernel) (by decide) (Nat.le_of_ble_eq_true rfl) rfl (by
  have hlt : j.toNatClampNeg < stL.getD i 0 := Nat.not_le.mp fun q => inb_spec hj (Or.inr q)
  have h8 := stL_8 i hi
  refine rn_aload_n (pc := 0) 0 dJ0_charAt_5068e_0 rfl rfl ?_
  refine rn_callVs (pc := 1) (n := 0) (As := []) (rest := []) (e_isLatin1 (d := d) hi) (by omega) hi rfl tw_510 tw_83 tw_507 tw_508 tw_509 (by decide +kernel) rfl (Nat.le_of_ble_eq_true rfl) dJ0_charAt_5068e_1 rfl ?_
  refine rn_zeq_f (pc := 4) 16 dJ0_charAt_5068e_4 (by decide) (by decide) ?_
  refine rn_aload_n (pc := 7) 0 dJ0_charAt_5068e_7 rfl rfl ?_
  refine rn_strVal (pc := 8) hi tw_1403 dJ0_charAt_5068e_8 ?_
  refine rn_iload_n (pc := 11) 1 dJ0_charAt_5068e_11 rfl rfl ?_
  refine rn_callS (pc := 12) (n := 2) (As := [rv (some (1000000 + (100 + i))), .int j]) (rest := []) (e_latin (d := d) hi hj) (by omega) tw_513 tw_84 tw_511 tw_512 (by decide +kernel) rfl (Nat.le_of_ble_eq_true rfl) dJ0_charAt_5068e_12 rfl ?_
  exact rn_nret (pc := 15) (stC_all i hi j.toNatClampNeg (by omega)).2 rfl dJ0_charAt_5068e_15)
def fStrLen (r : Option Nat) : Option Int32 := r.bind fun a => if decide (1000000 ≤ a) && decide (a < 1000010) then some (Int32.ofNat (stL.getD (a - 1000000) 0)) else none
def fStrAt (r : Option Nat) (j : Int32) : Option Int32 := r.bind fun a => if (decide (1000000 ≤ a) && decide (a < 1000010)) && inb j (stL.getD (a - 1000000) 0) then some (stC (a - 1000000) j) else none
theorem ext_of {a : Nat} (h : (decide (1000000 ≤ a) && decide (a < 1000010)) = true) : ∃ i, i < 10 ∧ a = 1000000 + i ∧ a - 1000000 = i := by
  rw [Bool.and_eq_true] at h
  have h1 := of_decide_eq_true h.1
  have h2 := of_decide_eq_true h.2
  exact ⟨a - 1000000, by omega, by omega, rfl⟩
theorem rn_strLen {r : Option Nat} {v : Int32} (hd0 : 2 ≤ d) (hl : Cond.methodLink M.1.cls idx yJ0_length_8abf5 ∈ lw_g) (hst : (rest.map fun v => v.category).sum ≤ 8) (hdg : decode M.2.1 pc = .ok (.invokevirtual idx, 3)) (h : fStrLen r = some v) (k : Rn l G M d (pc + 3) lv (.int v :: rest) u o u') : Rn l G M d pc lv (rv r :: rest) u o u' := by
  obtain ⟨a, rfl, h⟩ := bnd_some h
  obtain ⟨h1, h2⟩ := ite_some h
  obtain ⟨i, hi, rfl, e⟩ := ext_of h1
  rw [e] at h2
  subst h2
  exact rn_callVs (n := 0) (As := []) (rest := rest) (v := some _) (e_length (d := d - 2) hi) (by omega) hi rfl tw_497 tw_83 hl tw_495 tw_496 (by decide +kernel) rfl hst hdg rfl k
theorem rn_strAt {r : Option Nat} {j v : Int32} (hd0 : 4 ≤ d) (hl : Cond.methodLink M.1.cls idx yJ0_charAt_5068e ∈ lw_g) (hst : (rest.map fun v => v.category).sum ≤ 8) (hdg : decode M.2.1 pc = .ok (.invokevirtual idx, 3)) (h : fStrAt r j = some v) (k : Rn l G M d (pc + 3) lv (.int v :: rest) u o u') : Rn l G M d pc lv (.int j :: rv r :: rest) u o u' := by
  obtain ⟨a, rfl, h⟩ := bnd_some h
  obtain ⟨h1, h2⟩ := ite_some h
  rw [Bool.and_eq_true] at h1
  obtain ⟨i, hi, rfl, e⟩ := ext_of h1.1
  have h3 := h1.2
  rw [e] at h2 h3
  subst h2
  exact rn_callVs (n := 1) (As := [.int j]) (rest := rest) (v := some _) (e_charAt (d := d - 4) hi h3) (by omega) hi rfl tw_506 tw_83 hl tw_504 tw_505 (by decide +kernel) rfl hst hdg rfl k
end STR
/-! System.arraycopy between two int rows -/
def cpI (u : Mem) (a sp b dp n : Nat) : Mem := (fun c j => if c = b ∧ (dp ≤ j ∧ j < dp + n) then u.1 a (sp + (j - dp)) else u.1 c j, u.2.1, u.2.2.1, u.2.2.2)
theorem mI_cpI (u : Mem) (a sp b dp n c j : Nat) : mI (cpI u a sp b dp n) c j = if c = b ∧ (dp ≤ j ∧ j < dp + n) then mI u a (sp + (j - dp)) else mI u c j := rfl
theorem mR_cpI (u : Mem) (a sp b dp n c j : Nat) : mR (cpI u a sp b dp n) c j = mR u c j := rfl
theorem mL_cpI (u : Mem) (a sp b dp n c j : Nat) : mL (cpI u a sp b dp n) c j = mL u c j := rfl
theorem mN_cpI (u : Mem) (a sp b dp n : Nat) : mN (cpI u a sp b dp n) = mN u := rfl
def fCopy (u : Mem) (s : Option Nat) (sp : Int32) (t : Option Nat) (dp n : Int32) : Option Mem := s.bind fun a => t.bind fun b =>
  if (okc u a 20 && okc u b 20) && ((decide (0 ≤ sp.toInt) && decide (0 ≤ dp.toInt) && decide (0 ≤ n.toInt)) && (decide (sp.toNatClampNeg + n.toNatClampNeg ≤ (KF a).2) && decide (dp.toNatClampNeg + n.toNatClampNeg ≤ (KF b).2))) then some (cpI u a sp.toNatClampNeg b dp.toNatClampNeg n.toNatClampNeg) else none
section CPY
variable {l : Launch} {G : Gt} {M : MI} {d pc : Nat} {lv : List (Nat × Value)} {st rest : List Value} {u u1 u' : Mem} {o : Outcome} {idx : Nat}
theorem rn_copy {s0 t0 : Option Nat} {sp dp n : Int32} (hd0 : 1 ≤ d) (hl : Cond.methodLink M.1.cls idx arraycopyName ∈ lw_g) (hst : (rest.map fun v => v.category).sum ≤ 8) (hdg : decode M.2.1 pc = .ok (.invokestatic idx, 3)) (h : fCopy u s0 sp t0 dp n = some u1) (k : Rn l G M d (pc + 3) lv rest u1 o u') : Rn l G M d pc lv (.int n :: .int dp :: rv t0 :: .int sp :: rv s0 :: rest) u o u' := by
  obtain ⟨a0, rfl, hq2⟩ := bnd_some h
  obtain ⟨a, rfl, hq3⟩ := bnd_some hq2
  obtain ⟨h0, rfl⟩ := ite_some hq3
  simp only [Bool.and_eq_true, decide_eq_true_eq] at h0
  obtain ⟨⟨o0, o1⟩, ⟨⟨g1, g2⟩, g3⟩, g4, g5⟩ := h0
  obtain ⟨ha1, ha2⟩ := okc_spec o0
  obtain ⟨hb1, hb2⟩ := okc_spec o1
  have ng : ∀ z : Int32, 0 ≤ z.toInt → ¬ z < 0 := fun z hz q => by have := Int32.lt_iff_toInt_lt.mp q; simp at this; omega
  have nn : ∀ z : Int32, 0 ≤ z.toInt → z.toInt = (z.toNatClampNeg : Int) := fun z hz => by show z.toInt = ((z.toInt.toNat : Nat) : Int); omega
  refine Rn.wr (u1 := cpI u a0 sp.toNatClampNeg a dp.toNatClampNeg n.toNatClampNeg) rfl k fun p e R s m args below meth c H locs cells slots ls Q C hl' hM hS kk => ?_
  have hc0 := hM.arr ha1 ha2 (by decide)
  have hc1 := hM.arr hb1 hb2 (by decide)
  have hfr := C.fr
  have hlo := C.lo
  have hcat : ((rest.map (gv G)).map fun v => v.category).sum ≤ 8 := by rw [cat_gv]; exact hst
  obtain ⟨-, k0, hk0, cm0, hkk0⟩ := (C.wd.2.1 20 (by decide) (by decide)).1 (KF a0).2 (arV G u 20 a0)
  obtain ⟨-, k1, hk1, cm1, hkk1⟩ := (C.wd.2.1 20 (by decide) (by decide)).1 (KF a).2 (arV G u 20 a)
  intro T hT X
  obtain ⟨vm', X', step⟩ := X.arraycopy C.1 C.own (C.hts _ hl) (C.hts _ tw_561) (C.hts _ tw_560) (C.hts _ tw_87) (src := gr G a0) (dst := gr G a) (srcPos := sp) (destPos := dp) (n := n) (by rw [hT]; exact hc0) (by rw [hT]; exact hc1)
    (fun _ h => by cases h) (fun _ h => by cases h) (fun h => by cases h) (fun h => by cases h) hk0 hk1 hkk0 hkk1 (by simp [aty, refKind]) (ng sp g1) (ng dp g2) (ng n g3)
    (by rw [nn sp g1, nn n g3, arrV_size]; omega) (by rw [nn dp g2, nn n g3, arrV_size]; omega)
    (fun vm₁ _ i hi => by
      have e : (arrV (gAc G 20) (KF a0).2 (arV G u 20 a0)).slots.getD (sp.toNatClampNeg + i) .null = .int (mI u a0 (sp.toNatClampNeg + i)) := by
        rw [Array.getD_eq_getD_getElem?, arrV_read _ _ (by omega)]
        rfl
      refine ⟨?_, ?_⟩
      · rw [e]; rfl
      · rw [e]; exact trivial)
    (g := F0 m pc ls ((.int n :: .int dp :: rv (some a) :: .int sp :: rv (some a0) :: rest).map (gv G))) rfl (by rw [C.2.2.1]; exact hl'.1) (rest := rest.map (gv G)) rfl (by rw [C.2.1]; exact hdg) (by omega) (by show 2 * 0 + _ + _ ≤ _; have : nativeFrameWords "java/lang/System" "arraycopy" 5 ≤ 40 := (by decide); omega)
  have e1 : copied (arrV (gAc G 20) (KF a0).2 (arV G u 20 a0)) (arrV (gAc G 20) (KF a).2 (arV G u 20 a)) sp dp n = arrV (gAc G 20) (KF a).2 (arV G (cpI u a0 sp.toNatClampNeg a dp.toNatClampNeg n.toNatClampNeg) 20 a) := by
    refine (va_copied (fun z => .int z) (gAc G 20) (gAc G 20) (mI u a0) (mI u a) g4).trans ?_
    congr 1
    funext j
    show Value.int _ = .int (mI (cpI u a0 _ a _ _) a j)
    rw [mI_cpI, va_cpy]
    simp
  rw [e1] at X' step
  have hla : gr G a < H.size := (Array.getElem?_eq_some_iff.mp hc1).1
  obtain ⟨t, a1, b1⟩ := kk (H.setIfInBounds (gr G a) (arrV (gAc G 20) (KF a).2 (arV G (cpI u a0 sp.toNatClampNeg a dp.toNatClampNeg n.toNatClampNeg) 20 a))) _ (hM.set rfl (by simp) (fun q hq => by simp [Array.getElem?_setIfInBounds, Ne.symm hq]) hb1 (by
      unfold cellAt
      rw [hb2, if_neg (by decide), ← hM.adr hb1]
      simp [Array.getElem?_setIfInBounds, hla]) (fun b hb => ⟨fun j => by rw [mI_cpI, if_neg (fun z => hb z.1)], fun j => rfl, fun j => rfl⟩))
    ⟨by simp; exact hS.1, fun q z1 z2 => by
      have hne : q ≠ gr G a := fun e => z2 (by rw [e, hM.adr hb1]; exact Nat.le_add_right _ _)
      rw [show (H.setIfInBounds (gr G a) _)[q]? = H[q]? by simp [Array.getElem?_setIfInBounds, Ne.symm hne]]
      exact hS.2.1 q z1 z2, fun q hq => by
      rcases List.mem_append.mp hq with h | h
      · exact hS.2.2 q h
      · obtain ⟨z, -, hz⟩ := List.mem_map.mp h
        rw [← hz]
        show gB G ≤ gr G a
        rw [hM.adr hb1]; exact Nat.le_add_right _ _⟩ _ (by rw [← hT]; rfl) X'
  exact ⟨t, step t a1, b1⟩
end CPY
/-! Math of ints -/
def mxI (x y : Int32) : Int32 := if x < y then y else x
def mnI (x y : Int32) : Int32 := if y < x then y else x
def abI (x : Int32) : Int32 := if 0 ≤ x then x else 0 - x
section MTH
variable {l : Launch} {G : Gt} {M : MI} {d pc : Nat} {lv : List (Nat × Value)} {st rest : List Value} {u u' : Mem} {o : Outcome} {idx : Nat}
theorem rn_mmax {x y : Int32} (hd0 : 1 ≤ d) (hl : Cond.methodLink M.1.cls idx Lib.Math.max.name ∈ lw_g) (hst : (rest.map fun v => v.category).sum ≤ 8) (hdg : decode M.2.1 pc = .ok (.invokestatic idx, 3)) (k : Rn l G M d (pc + 3) lv (.int (mxI x y) :: rest) u o u') : Rn l G M d pc lv (.int y :: .int x :: rest) u o u' :=
  ⟨k.1, fun p e R s m args below meth c H locs cells slots ls C hl' hM hS hc hs => by
    have hcat : ((rest.map (gv G)).map fun v => v.category).sum ≤ 8 := by rw [cat_gv]; exact hst
    have h1 := C.fr
    have h2 := C.lo
    exact va_mmax C.1 C.2.1 (by rw [C.2.2.1]; exact hl'.1.symm) C.own (C.hts _ hl) (C.hts _ tw_716) (C.hts _ tw_89) (C.hts _ tw_717) (by omega) (by omega) (by omega) (by omega) hdg (k.2 p e R s m args below meth c H locs cells slots ls C hl' hM hS hc hs)⟩
theorem rn_mmin {x y : Int32} (hd0 : 1 ≤ d) (hl : Cond.methodLink M.1.cls idx Lib.Math.min.name ∈ lw_g) (hst : (rest.map fun v => v.category).sum ≤ 8) (hdg : decode M.2.1 pc = .ok (.invokestatic idx, 3)) (k : Rn l G M d (pc + 3) lv (.int (mnI x y) :: rest) u o u') : Rn l G M d pc lv (.int y :: .int x :: rest) u o u' :=
  ⟨k.1, fun p e R s m args below meth c H locs cells slots ls C hl' hM hS hc hs => by
    have hcat : ((rest.map (gv G)).map fun v => v.category).sum ≤ 8 := by rw [cat_gv]; exact hst
    have h1 := C.fr
    have h2 := C.lo
    exact va_mmin C.1 C.2.1 (by rw [C.2.2.1]; exact hl'.1.symm) C.own (C.hts _ hl) (C.hts _ tw_679) (C.hts _ tw_89) (C.hts _ tw_680) (by omega) (by omega) (by omega) (by omega) hdg (k.2 p e R s m args below meth c H locs cells slots ls C hl' hM hS hc hs)⟩
theorem rn_mabs {x : Int32} (hd0 : 1 ≤ d) (hl : Cond.methodLink M.1.cls idx Lib.Math.abs.name ∈ lw_g) (hst : (rest.map fun v => v.category).sum ≤ 8) (hdg : decode M.2.1 pc = .ok (.invokestatic idx, 3)) (k : Rn l G M d (pc + 3) lv (.int (abI x) :: rest) u o u') : Rn l G M d pc lv (.int x :: rest) u o u' :=
  ⟨k.1, fun p e R s m args below meth c H locs cells slots ls C hl' hM hS hc hs => by
    have hcat : ((rest.map (gv G)).map fun v => v.category).sum ≤ 8 := by rw [cat_gv]; exact hst
    have h1 := C.fr
    have h2 := C.lo
    exact va_mabs C.1 C.2.1 (by rw [C.2.2.1]; exact hl'.1.symm) C.own (C.hts _ hl) (C.hts _ tw_898) (C.hts _ tw_89) (C.hts _ tw_899) (by omega) (by omega) (by omega) (by omega) hdg (k.2 p e R s m args below meth c H locs cells slots ls C hl' hM hS hc hs)⟩
end MTH
